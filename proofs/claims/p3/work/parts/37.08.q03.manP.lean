/-! ===== the reference: steps, paths, meanings ===== -/
theorem dX12_step_0 : decode cX12_step 0 = .ok (.aload_n 0, 1) := by decide +kernel
theorem dX12_step_1 : decode cX12_step 1 = .ok (.iload_n 1, 1) := by decide +kernel
theorem dX12_step_2 : decode cX12_step 2 = .ok (.iload_n 2, 1) := by decide +kernel
theorem dX12_step_3 : decode cX12_step 3 = .ok (.invokevirtual 318, 3) := by decide +kernel
theorem dX12_step_6 : decode cX12_step 6 = .ok (.istore_n 3, 1) := by decide +kernel
theorem dX12_step_7 : decode cX12_step 7 = .ok (.iload_n 3, 1) := by decide +kernel
theorem dX12_step_8 : decode cX12_step 8 = .ok (.iconst (-1), 1) := by decide +kernel
theorem dX12_step_9 : decode cX12_step 9 = .ok (.if_icmp .eq 19, 3) := by decide +kernel
theorem dX12_step_12 : decode cX12_step 12 = .ok (.aload_n 0, 1) := by decide +kernel
theorem dX12_step_13 : decode cX12_step 13 = .ok (.getfield 290, 3) := by decide +kernel
theorem dX12_step_16 : decode cX12_step 16 = .ok (.aload_n 0, 1) := by decide +kernel
theorem dX12_step_17 : decode cX12_step 17 = .ok (.getfield 312, 3) := by decide +kernel
theorem dX12_step_20 : decode cX12_step 20 = .ok (.lor, 1) := by decide +kernel
theorem dX12_step_21 : decode cX12_step 21 = .ok (.iload_n 3, 1) := by decide +kernel
theorem dX12_step_22 : decode cX12_step 22 = .ok (.invokestatic 299, 3) := by decide +kernel
theorem dX12_step_25 : decode cX12_step 25 = .ok (.ifCond .eq 7, 3) := by decide +kernel
theorem dX12_step_28 : decode cX12_step 28 = .ok (.iconst (-1), 1) := by decide +kernel
theorem dX12_step_29 : decode cX12_step 29 = .ok (.goto 4, 3) := by decide +kernel
theorem dX12_step_32 : decode cX12_step 32 = .ok (.iload_n 3, 1) := by decide +kernel
theorem dX12_step_33 : decode cX12_step 33 = .ok (.ireturn, 1) := by decide +kernel
theorem dX12_endsThere_0 : decode cX12_endsThere 0 = .ok (.aload_n 0, 1) := by decide +kernel
theorem dX12_endsThere_1 : decode cX12_endsThere 1 = .ok (.getfield 315, 3) := by decide +kernel
theorem dX12_endsThere_4 : decode cX12_endsThere 4 = .ok (.aload_n 0, 1) := by decide +kernel
theorem dX12_endsThere_5 : decode cX12_endsThere 5 = .ok (.getfield 293, 3) := by decide +kernel
theorem dX12_endsThere_8 : decode cX12_endsThere 8 = .ok (.lor, 1) := by decide +kernel
theorem dX12_endsThere_9 : decode cX12_endsThere 9 = .ok (.iload_n 1, 1) := by decide +kernel
theorem dX12_endsThere_10 : decode cX12_endsThere 10 = .ok (.invokestatic 299, 3) := by decide +kernel
theorem dX12_endsThere_13 : decode cX12_endsThere 13 = .ok (.ireturn, 1) := by decide +kernel
theorem dX12_goesOn_0 : decode cX12_goesOn 0 = .ok (.iload_n 2, 1) := by decide +kernel
theorem dX12_goesOn_1 : decode cX12_goesOn 1 = .ok (.iconst 4, 1) := by decide +kernel
theorem dX12_goesOn_2 : decode cX12_goesOn 2 = .ok (.if_icmp .ne 4, 3) := by decide +kernel
theorem dX12_goesOn_5 : decode cX12_goesOn 5 = .ok (.return_, 1) := by decide +kernel
theorem dX12_goesOn_6 : decode cX12_goesOn 6 = .ok (.iload_n 1, 1) := by decide +kernel
theorem dX12_goesOn_7 : decode cX12_goesOn 7 = .ok (.istore 4, 2) := by decide +kernel
theorem dX12_goesOn_9 : decode cX12_goesOn 9 = .ok (.aload_n 0, 1) := by decide +kernel
theorem dX12_goesOn_10 : decode cX12_goesOn 10 = .ok (.iload 4, 2) := by decide +kernel
theorem dX12_goesOn_12 : decode cX12_goesOn 12 = .ok (.iload_n 2, 1) := by decide +kernel
theorem dX12_goesOn_13 : decode cX12_goesOn 13 = .ok (.invokevirtual 322, 3) := by decide +kernel
theorem dX12_goesOn_16 : decode cX12_goesOn 16 = .ok (.istore 5, 2) := by decide +kernel
theorem dX12_goesOn_18 : decode cX12_goesOn 18 = .ok (.iload 5, 2) := by decide +kernel
theorem dX12_goesOn_20 : decode cX12_goesOn 20 = .ok (.iconst (-1), 1) := by decide +kernel
theorem dX12_goesOn_21 : decode cX12_goesOn 21 = .ok (.if_icmp .eq 42, 3) := by decide +kernel
theorem dX12_goesOn_24 : decode cX12_goesOn 24 = .ok (.iload 5, 2) := by decide +kernel
theorem dX12_goesOn_26 : decode cX12_goesOn 26 = .ok (.istore 4, 2) := by decide +kernel
theorem dX12_goesOn_28 : decode cX12_goesOn 28 = .ok (.aload_n 0, 1) := by decide +kernel
theorem dX12_goesOn_29 : decode cX12_goesOn 29 = .ok (.iload 4, 2) := by decide +kernel
theorem dX12_goesOn_31 : decode cX12_goesOn 31 = .ok (.invokevirtual 325, 3) := by decide +kernel
theorem dX12_goesOn_34 : decode cX12_goesOn 34 = .ok (.ifCond .eq 17, 3) := by decide +kernel
theorem dX12_goesOn_37 : decode cX12_goesOn 37 = .ok (.aload_n 0, 1) := by decide +kernel
theorem dX12_goesOn_38 : decode cX12_goesOn 38 = .ok (.dup, 1) := by decide +kernel
theorem dX12_goesOn_39 : decode cX12_goesOn 39 = .ok (.getfield 328, 3) := by decide +kernel
theorem dX12_goesOn_42 : decode cX12_goesOn 42 = .ok (.lconst 1, 1) := by decide +kernel
theorem dX12_goesOn_43 : decode cX12_goesOn 43 = .ok (.iload 4, 2) := by decide +kernel
theorem dX12_goesOn_45 : decode cX12_goesOn 45 = .ok (.lshl, 1) := by decide +kernel
theorem dX12_goesOn_46 : decode cX12_goesOn 46 = .ok (.lor, 1) := by decide +kernel
theorem dX12_goesOn_47 : decode cX12_goesOn 47 = .ok (.putfield 328, 3) := by decide +kernel
theorem dX12_goesOn_50 : decode cX12_goesOn 50 = .ok (.return_, 1) := by decide +kernel
theorem dX12_goesOn_51 : decode cX12_goesOn 51 = .ok (.aload_n 0, 1) := by decide +kernel
theorem dX12_goesOn_52 : decode cX12_goesOn 52 = .ok (.iload 4, 2) := by decide +kernel
theorem dX12_goesOn_54 : decode cX12_goesOn 54 = .ok (.iload_n 2, 1) := by decide +kernel
theorem dX12_goesOn_55 : decode cX12_goesOn 55 = .ok (.invokevirtual 322, 3) := by decide +kernel
theorem dX12_goesOn_58 : decode cX12_goesOn 58 = .ok (.istore 5, 2) := by decide +kernel
theorem dX12_goesOn_60 : decode cX12_goesOn 60 = .ok (.goto (-42), 3) := by decide +kernel
theorem dX12_goesOn_63 : decode cX12_goesOn 63 = .ok (.aload_n 3, 1) := by decide +kernel
theorem dX12_goesOn_64 : decode cX12_goesOn 64 = .ok (.iload_n 2, 1) := by decide +kernel
theorem dX12_goesOn_65 : decode cX12_goesOn 65 = .ok (.dup2, 1) := by decide +kernel
theorem dX12_goesOn_66 : decode cX12_goesOn 66 = .ok (.laload, 1) := by decide +kernel
theorem dX12_goesOn_67 : decode cX12_goesOn 67 = .ok (.lconst 1, 1) := by decide +kernel
theorem dX12_goesOn_68 : decode cX12_goesOn 68 = .ok (.iload 4, 2) := by decide +kernel
theorem dX12_goesOn_70 : decode cX12_goesOn 70 = .ok (.lshl, 1) := by decide +kernel
theorem dX12_goesOn_71 : decode cX12_goesOn 71 = .ok (.lor, 1) := by decide +kernel
theorem dX12_goesOn_72 : decode cX12_goesOn 72 = .ok (.lastore, 1) := by decide +kernel
theorem dX12_goesOn_73 : decode cX12_goesOn 73 = .ok (.return_, 1) := by decide +kernel
theorem dX12_isFirst_0 : decode cX12_isFirst 0 = .ok (.iload_n 0, 1) := by decide +kernel
theorem dX12_isFirst_1 : decode cX12_isFirst 1 = .ok (.iload_n 3, 1) := by decide +kernel
theorem dX12_isFirst_2 : decode cX12_isFirst 2 = .ok (.if_icmp .lt 15, 3) := by decide +kernel
theorem dX12_isFirst_5 : decode cX12_isFirst 5 = .ok (.iload_n 0, 1) := by decide +kernel
theorem dX12_isFirst_6 : decode cX12_isFirst 6 = .ok (.iload_n 3, 1) := by decide +kernel
theorem dX12_isFirst_7 : decode cX12_isFirst 7 = .ok (.if_icmp .ne 14, 3) := by decide +kernel
theorem dX12_isFirst_10 : decode cX12_isFirst 10 = .ok (.lload_n 1, 1) := by decide +kernel
theorem dX12_isFirst_11 : decode cX12_isFirst 11 = .ok (.lload 4, 2) := by decide +kernel
theorem dX12_isFirst_13 : decode cX12_isFirst 13 = .ok (.lcmp, 1) := by decide +kernel
theorem dX12_isFirst_14 : decode cX12_isFirst 14 = .ok (.ifCond .ge 7, 3) := by decide +kernel
theorem dX12_isFirst_17 : decode cX12_isFirst 17 = .ok (.iconst 1, 1) := by decide +kernel
theorem dX12_isFirst_18 : decode cX12_isFirst 18 = .ok (.goto 4, 3) := by decide +kernel
theorem dX12_isFirst_21 : decode cX12_isFirst 21 = .ok (.iconst 0, 1) := by decide +kernel
theorem dX12_isFirst_22 : decode cX12_isFirst 22 = .ok (.ireturn, 1) := by decide +kernel
theorem dX12_comesTo_0 : decode cX12_comesTo 0 = .ok (.bipush 36, 2) := by decide +kernel
theorem dX12_comesTo_2 : decode cX12_comesTo 2 = .ok (.iload_n 2, 1) := by decide +kernel
theorem dX12_comesTo_3 : decode cX12_comesTo 3 = .ok (.imul, 1) := by decide +kernel
theorem dX12_comesTo_4 : decode cX12_comesTo 4 = .ok (.iload_n 1, 1) := by decide +kernel
theorem dX12_comesTo_5 : decode cX12_comesTo 5 = .ok (.iadd, 1) := by decide +kernel
theorem dX12_comesTo_6 : decode cX12_comesTo 6 = .ok (.istore 7, 2) := by decide +kernel
theorem dX12_comesTo_8 : decode cX12_comesTo 8 = .ok (.aload_n 0, 1) := by decide +kernel
theorem dX12_comesTo_9 : decode cX12_comesTo 9 = .ok (.getfield 90, 3) := by decide +kernel
theorem dX12_comesTo_12 : decode cX12_comesTo 12 = .ok (.iload 7, 2) := by decide +kernel
theorem dX12_comesTo_14 : decode cX12_comesTo 14 = .ok (.iaload, 1) := by decide +kernel
theorem dX12_comesTo_15 : decode cX12_comesTo 15 = .ok (.ifCond .eq 27, 3) := by decide +kernel
theorem dX12_comesTo_18 : decode cX12_comesTo 18 = .ok (.iload 4, 2) := by decide +kernel
theorem dX12_comesTo_20 : decode cX12_comesTo 20 = .ok (.lload 5, 2) := by decide +kernel
theorem dX12_comesTo_22 : decode cX12_comesTo 22 = .ok (.aload_n 0, 1) := by decide +kernel
theorem dX12_comesTo_23 : decode cX12_comesTo 23 = .ok (.getfield 99, 3) := by decide +kernel
theorem dX12_comesTo_26 : decode cX12_comesTo 26 = .ok (.iload 7, 2) := by decide +kernel
theorem dX12_comesTo_28 : decode cX12_comesTo 28 = .ok (.iaload, 1) := by decide +kernel
theorem dX12_comesTo_29 : decode cX12_comesTo 29 = .ok (.aload_n 0, 1) := by decide +kernel
theorem dX12_comesTo_30 : decode cX12_comesTo 30 = .ok (.getfield 108, 3) := by decide +kernel
theorem dX12_comesTo_33 : decode cX12_comesTo 33 = .ok (.iload 7, 2) := by decide +kernel
theorem dX12_comesTo_35 : decode cX12_comesTo 35 = .ok (.laload, 1) := by decide +kernel
theorem dX12_comesTo_36 : decode cX12_comesTo 36 = .ok (.invokestatic 397, 3) := by decide +kernel
theorem dX12_comesTo_39 : decode cX12_comesTo 39 = .ok (.ifCond .eq 21, 3) := by decide +kernel
theorem dX12_comesTo_42 : decode cX12_comesTo 42 = .ok (.aload_n 0, 1) := by decide +kernel
theorem dX12_comesTo_43 : decode cX12_comesTo 43 = .ok (.getfield 99, 3) := by decide +kernel
theorem dX12_comesTo_46 : decode cX12_comesTo 46 = .ok (.iload 7, 2) := by decide +kernel
theorem dX12_comesTo_48 : decode cX12_comesTo 48 = .ok (.iload 4, 2) := by decide +kernel
theorem dX12_comesTo_50 : decode cX12_comesTo 50 = .ok (.iastore, 1) := by decide +kernel
theorem dX12_comesTo_51 : decode cX12_comesTo 51 = .ok (.aload_n 0, 1) := by decide +kernel
theorem dX12_comesTo_52 : decode cX12_comesTo 52 = .ok (.getfield 108, 3) := by decide +kernel
theorem dX12_comesTo_55 : decode cX12_comesTo 55 = .ok (.iload 7, 2) := by decide +kernel
theorem dX12_comesTo_57 : decode cX12_comesTo 57 = .ok (.lload 5, 2) := by decide +kernel
theorem dX12_comesTo_59 : decode cX12_comesTo 59 = .ok (.lastore, 1) := by decide +kernel
theorem dX12_comesTo_60 : decode cX12_comesTo 60 = .ok (.aload_n 0, 1) := by decide +kernel
theorem dX12_comesTo_61 : decode cX12_comesTo 61 = .ok (.getfield 90, 3) := by decide +kernel
theorem dX12_comesTo_64 : decode cX12_comesTo 64 = .ok (.iload 7, 2) := by decide +kernel
theorem dX12_comesTo_66 : decode cX12_comesTo 66 = .ok (.dup2, 1) := by decide +kernel
theorem dX12_comesTo_67 : decode cX12_comesTo 67 = .ok (.iaload, 1) := by decide +kernel
theorem dX12_comesTo_68 : decode cX12_comesTo 68 = .ok (.iload_n 3, 1) := by decide +kernel
theorem dX12_comesTo_69 : decode cX12_comesTo 69 = .ok (.iadd, 1) := by decide +kernel
theorem dX12_comesTo_70 : decode cX12_comesTo 70 = .ok (.iastore, 1) := by decide +kernel
theorem dX12_comesTo_71 : decode cX12_comesTo 71 = .ok (.return_, 1) := by decide +kernel
theorem dX12_endsAt_0 : decode cX12_endsAt 0 = .ok (.aload_n 0, 1) := by decide +kernel
theorem dX12_endsAt_1 : decode cX12_endsAt 1 = .ok (.getfield 114, 3) := by decide +kernel
theorem dX12_endsAt_4 : decode cX12_endsAt 4 = .ok (.iload_n 1, 1) := by decide +kernel
theorem dX12_endsAt_5 : decode cX12_endsAt 5 = .ok (.iaload, 1) := by decide +kernel
theorem dX12_endsAt_6 : decode cX12_endsAt 6 = .ok (.ifCond .eq 24, 3) := by decide +kernel
theorem dX12_endsAt_9 : decode cX12_endsAt 9 = .ok (.iload_n 3, 1) := by decide +kernel
theorem dX12_endsAt_10 : decode cX12_endsAt 10 = .ok (.lload 4, 2) := by decide +kernel
theorem dX12_endsAt_12 : decode cX12_endsAt 12 = .ok (.aload_n 0, 1) := by decide +kernel
theorem dX12_endsAt_13 : decode cX12_endsAt 13 = .ok (.getfield 117, 3) := by decide +kernel
theorem dX12_endsAt_16 : decode cX12_endsAt 16 = .ok (.iload_n 1, 1) := by decide +kernel
theorem dX12_endsAt_17 : decode cX12_endsAt 17 = .ok (.iaload, 1) := by decide +kernel
theorem dX12_endsAt_18 : decode cX12_endsAt 18 = .ok (.aload_n 0, 1) := by decide +kernel
theorem dX12_endsAt_19 : decode cX12_endsAt 19 = .ok (.getfield 120, 3) := by decide +kernel
theorem dX12_endsAt_22 : decode cX12_endsAt 22 = .ok (.iload_n 1, 1) := by decide +kernel
theorem dX12_endsAt_23 : decode cX12_endsAt 23 = .ok (.laload, 1) := by decide +kernel
theorem dX12_endsAt_24 : decode cX12_endsAt 24 = .ok (.invokestatic 397, 3) := by decide +kernel
theorem dX12_endsAt_27 : decode cX12_endsAt 27 = .ok (.ifCond .eq 18, 3) := by decide +kernel
theorem dX12_endsAt_30 : decode cX12_endsAt 30 = .ok (.aload_n 0, 1) := by decide +kernel
theorem dX12_endsAt_31 : decode cX12_endsAt 31 = .ok (.getfield 117, 3) := by decide +kernel
theorem dX12_endsAt_34 : decode cX12_endsAt 34 = .ok (.iload_n 1, 1) := by decide +kernel
theorem dX12_endsAt_35 : decode cX12_endsAt 35 = .ok (.iload_n 3, 1) := by decide +kernel
theorem dX12_endsAt_36 : decode cX12_endsAt 36 = .ok (.iastore, 1) := by decide +kernel
theorem dX12_endsAt_37 : decode cX12_endsAt 37 = .ok (.aload_n 0, 1) := by decide +kernel
theorem dX12_endsAt_38 : decode cX12_endsAt 38 = .ok (.getfield 120, 3) := by decide +kernel
theorem dX12_endsAt_41 : decode cX12_endsAt 41 = .ok (.iload_n 1, 1) := by decide +kernel
theorem dX12_endsAt_42 : decode cX12_endsAt 42 = .ok (.lload 4, 2) := by decide +kernel
theorem dX12_endsAt_44 : decode cX12_endsAt 44 = .ok (.lastore, 1) := by decide +kernel
theorem dX12_endsAt_45 : decode cX12_endsAt 45 = .ok (.aload_n 0, 1) := by decide +kernel
theorem dX12_endsAt_46 : decode cX12_endsAt 46 = .ok (.getfield 114, 3) := by decide +kernel
theorem dX12_endsAt_49 : decode cX12_endsAt 49 = .ok (.iload_n 1, 1) := by decide +kernel
theorem dX12_endsAt_50 : decode cX12_endsAt 50 = .ok (.dup2, 1) := by decide +kernel
theorem dX12_endsAt_51 : decode cX12_endsAt 51 = .ok (.iaload, 1) := by decide +kernel
theorem dX12_endsAt_52 : decode cX12_endsAt 52 = .ok (.iload_n 2, 1) := by decide +kernel
theorem dX12_endsAt_53 : decode cX12_endsAt 53 = .ok (.iadd, 1) := by decide +kernel
theorem dX12_endsAt_54 : decode cX12_endsAt 54 = .ok (.iastore, 1) := by decide +kernel
theorem dX12_endsAt_55 : decode cX12_endsAt 55 = .ok (.return_, 1) := by decide +kernel
theorem dX12_goesTo_0 : decode cX12_goesTo 0 = .ok (.iload_n 1, 1) := by decide +kernel
theorem dX12_goesTo_1 : decode cX12_goesTo 1 = .ok (.iconst (-1), 1) := by decide +kernel
theorem dX12_goesTo_2 : decode cX12_goesTo 2 = .ok (.if_icmp .ne 5, 3) := by decide +kernel
theorem dX12_goesTo_5 : decode cX12_goesTo 5 = .ok (.iconst 0, 1) := by decide +kernel
theorem dX12_goesTo_6 : decode cX12_goesTo 6 = .ok (.ireturn, 1) := by decide +kernel
theorem dX12_goesTo_7 : decode cX12_goesTo 7 = .ok (.aload_n 0, 1) := by decide +kernel
theorem dX12_goesTo_8 : decode cX12_goesTo 8 = .ok (.iload_n 1, 1) := by decide +kernel
theorem dX12_goesTo_9 : decode cX12_goesTo 9 = .ok (.invokevirtual 325, 3) := by decide +kernel
theorem dX12_goesTo_12 : decode cX12_goesTo 12 = .ok (.ifCond .eq 16, 3) := by decide +kernel
theorem dX12_goesTo_15 : decode cX12_goesTo 15 = .ok (.aload_n 0, 1) := by decide +kernel
theorem dX12_goesTo_16 : decode cX12_goesTo 16 = .ok (.iload_n 1, 1) := by decide +kernel
theorem dX12_goesTo_17 : decode cX12_goesTo 17 = .ok (.iload_n 3, 1) := by decide +kernel
theorem dX12_goesTo_18 : decode cX12_goesTo 18 = .ok (.iload 4, 2) := by decide +kernel
theorem dX12_goesTo_20 : decode cX12_goesTo 20 = .ok (.lload 5, 2) := by decide +kernel
theorem dX12_goesTo_22 : decode cX12_goesTo 22 = .ok (.invokevirtual 401, 3) := by decide +kernel
theorem dX12_goesTo_25 : decode cX12_goesTo 25 = .ok (.goto 14, 3) := by decide +kernel
theorem dX12_goesTo_28 : decode cX12_goesTo 28 = .ok (.aload_n 0, 1) := by decide +kernel
theorem dX12_goesTo_29 : decode cX12_goesTo 29 = .ok (.iload_n 1, 1) := by decide +kernel
theorem dX12_goesTo_30 : decode cX12_goesTo 30 = .ok (.iload_n 2, 1) := by decide +kernel
theorem dX12_goesTo_31 : decode cX12_goesTo 31 = .ok (.iload_n 3, 1) := by decide +kernel
theorem dX12_goesTo_32 : decode cX12_goesTo 32 = .ok (.iload 4, 2) := by decide +kernel
theorem dX12_goesTo_34 : decode cX12_goesTo 34 = .ok (.lload 5, 2) := by decide +kernel
theorem dX12_goesTo_36 : decode cX12_goesTo 36 = .ok (.invokevirtual 405, 3) := by decide +kernel
theorem dX12_goesTo_39 : decode cX12_goesTo 39 = .ok (.iconst 1, 1) := by decide +kernel
theorem dX12_goesTo_40 : decode cX12_goesTo 40 = .ok (.ireturn, 1) := by decide +kernel
theorem dX12_pathOn_0 : decode cX12_pathOn 0 = .ok (.iload_n 1, 1) := by decide +kernel
theorem dX12_pathOn_1 : decode cX12_pathOn 1 = .ok (.istore 7, 2) := by decide +kernel
theorem dX12_pathOn_3 : decode cX12_pathOn 3 = .ok (.iload 4, 2) := by decide +kernel
theorem dX12_pathOn_5 : decode cX12_pathOn 5 = .ok (.istore 8, 2) := by decide +kernel
theorem dX12_pathOn_7 : decode cX12_pathOn 7 = .ok (.lload 5, 2) := by decide +kernel
theorem dX12_pathOn_9 : decode cX12_pathOn 9 = .ok (.lstore 9, 2) := by decide +kernel
theorem dX12_pathOn_11 : decode cX12_pathOn 11 = .ok (.aload_n 0, 1) := by decide +kernel
theorem dX12_pathOn_12 : decode cX12_pathOn 12 = .ok (.iload 7, 2) := by decide +kernel
theorem dX12_pathOn_14 : decode cX12_pathOn 14 = .ok (.iload_n 2, 1) := by decide +kernel
theorem dX12_pathOn_15 : decode cX12_pathOn 15 = .ok (.invokevirtual 322, 3) := by decide +kernel
theorem dX12_pathOn_18 : decode cX12_pathOn 18 = .ok (.istore 11, 2) := by decide +kernel
theorem dX12_pathOn_20 : decode cX12_pathOn 20 = .ok (.iload 11, 2) := by decide +kernel
theorem dX12_pathOn_22 : decode cX12_pathOn 22 = .ok (.iconst (-1), 1) := by decide +kernel
theorem dX12_pathOn_23 : decode cX12_pathOn 23 = .ok (.if_icmp .eq 55, 3) := by decide +kernel
theorem dX12_pathOn_26 : decode cX12_pathOn 26 = .ok (.iload 11, 2) := by decide +kernel
theorem dX12_pathOn_28 : decode cX12_pathOn 28 = .ok (.istore 7, 2) := by decide +kernel
theorem dX12_pathOn_30 : decode cX12_pathOn 30 = .ok (.iinc 8 1, 3) := by decide +kernel
theorem dX12_pathOn_33 : decode cX12_pathOn 33 = .ok (.ldc2_w 409, 3) := by decide +kernel
theorem dX12_pathOn_36 : decode cX12_pathOn 36 = .ok (.lload 9, 2) := by decide +kernel
theorem dX12_pathOn_38 : decode cX12_pathOn 38 = .ok (.lmul, 1) := by decide +kernel
theorem dX12_pathOn_39 : decode cX12_pathOn 39 = .ok (.iload_n 2, 1) := by decide +kernel
theorem dX12_pathOn_40 : decode cX12_pathOn 40 = .ok (.i2l, 1) := by decide +kernel
theorem dX12_pathOn_41 : decode cX12_pathOn 41 = .ok (.ladd, 1) := by decide +kernel
theorem dX12_pathOn_42 : decode cX12_pathOn 42 = .ok (.lstore 9, 2) := by decide +kernel
theorem dX12_pathOn_44 : decode cX12_pathOn 44 = .ok (.aload_n 0, 1) := by decide +kernel
theorem dX12_pathOn_45 : decode cX12_pathOn 45 = .ok (.iload 7, 2) := by decide +kernel
theorem dX12_pathOn_47 : decode cX12_pathOn 47 = .ok (.invokevirtual 325, 3) := by decide +kernel
theorem dX12_pathOn_50 : decode cX12_pathOn 50 = .ok (.ifCond .eq 16, 3) := by decide +kernel
theorem dX12_pathOn_53 : decode cX12_pathOn 53 = .ok (.aload_n 0, 1) := by decide +kernel
theorem dX12_pathOn_54 : decode cX12_pathOn 54 = .ok (.iload 7, 2) := by decide +kernel
theorem dX12_pathOn_56 : decode cX12_pathOn 56 = .ok (.iload_n 3, 1) := by decide +kernel
theorem dX12_pathOn_57 : decode cX12_pathOn 57 = .ok (.iload 8, 2) := by decide +kernel
theorem dX12_pathOn_59 : decode cX12_pathOn 59 = .ok (.lload 9, 2) := by decide +kernel
theorem dX12_pathOn_61 : decode cX12_pathOn 61 = .ok (.invokevirtual 401, 3) := by decide +kernel
theorem dX12_pathOn_64 : decode cX12_pathOn 64 = .ok (.iconst 1, 1) := by decide +kernel
theorem dX12_pathOn_65 : decode cX12_pathOn 65 = .ok (.ireturn, 1) := by decide +kernel
theorem dX12_pathOn_66 : decode cX12_pathOn 66 = .ok (.aload_n 0, 1) := by decide +kernel
theorem dX12_pathOn_67 : decode cX12_pathOn 67 = .ok (.iload 7, 2) := by decide +kernel
theorem dX12_pathOn_69 : decode cX12_pathOn 69 = .ok (.iload_n 2, 1) := by decide +kernel
theorem dX12_pathOn_70 : decode cX12_pathOn 70 = .ok (.invokevirtual 322, 3) := by decide +kernel
theorem dX12_pathOn_73 : decode cX12_pathOn 73 = .ok (.istore 11, 2) := by decide +kernel
theorem dX12_pathOn_75 : decode cX12_pathOn 75 = .ok (.goto (-55), 3) := by decide +kernel
theorem dX12_pathOn_78 : decode cX12_pathOn 78 = .ok (.aload_n 0, 1) := by decide +kernel
theorem dX12_pathOn_79 : decode cX12_pathOn 79 = .ok (.iload 7, 2) := by decide +kernel
theorem dX12_pathOn_81 : decode cX12_pathOn 81 = .ok (.iload_n 2, 1) := by decide +kernel
theorem dX12_pathOn_82 : decode cX12_pathOn 82 = .ok (.iload_n 3, 1) := by decide +kernel
theorem dX12_pathOn_83 : decode cX12_pathOn 83 = .ok (.iload 8, 2) := by decide +kernel
theorem dX12_pathOn_85 : decode cX12_pathOn 85 = .ok (.lload 9, 2) := by decide +kernel
theorem dX12_pathOn_87 : decode cX12_pathOn 87 = .ok (.invokevirtual 405, 3) := by decide +kernel
theorem dX12_pathOn_90 : decode cX12_pathOn 90 = .ok (.iconst 1, 1) := by decide +kernel
theorem dX12_pathOn_91 : decode cX12_pathOn 91 = .ok (.ireturn, 1) := by decide +kernel
theorem dX12_isBeside_0 : decode cX12_isBeside 0 = .ok (.iconst 0, 1) := by decide +kernel
theorem dX12_isBeside_1 : decode cX12_isBeside 1 = .ok (.istore_n 2, 1) := by decide +kernel
theorem dX12_isBeside_2 : decode cX12_isBeside 2 = .ok (.iload_n 2, 1) := by decide +kernel
theorem dX12_isBeside_3 : decode cX12_isBeside 3 = .ok (.iconst 4, 1) := by decide +kernel
theorem dX12_isBeside_4 : decode cX12_isBeside 4 = .ok (.if_icmp .ge 34, 3) := by decide +kernel
theorem dX12_isBeside_7 : decode cX12_isBeside 7 = .ok (.aload_n 0, 1) := by decide +kernel
theorem dX12_isBeside_8 : decode cX12_isBeside 8 = .ok (.iload_n 1, 1) := by decide +kernel
theorem dX12_isBeside_9 : decode cX12_isBeside 9 = .ok (.iload_n 2, 1) := by decide +kernel
theorem dX12_isBeside_10 : decode cX12_isBeside 10 = .ok (.invokevirtual 318, 3) := by decide +kernel
theorem dX12_isBeside_13 : decode cX12_isBeside 13 = .ok (.istore_n 3, 1) := by decide +kernel
theorem dX12_isBeside_14 : decode cX12_isBeside 14 = .ok (.iload_n 3, 1) := by decide +kernel
theorem dX12_isBeside_15 : decode cX12_isBeside 15 = .ok (.iconst (-1), 1) := by decide +kernel
theorem dX12_isBeside_16 : decode cX12_isBeside 16 = .ok (.if_icmp .eq 16, 3) := by decide +kernel
theorem dX12_isBeside_19 : decode cX12_isBeside 19 = .ok (.aload_n 0, 1) := by decide +kernel
theorem dX12_isBeside_20 : decode cX12_isBeside 20 = .ok (.getfield 315, 3) := by decide +kernel
theorem dX12_isBeside_23 : decode cX12_isBeside 23 = .ok (.iload_n 3, 1) := by decide +kernel
theorem dX12_isBeside_24 : decode cX12_isBeside 24 = .ok (.invokestatic 299, 3) := by decide +kernel
theorem dX12_isBeside_27 : decode cX12_isBeside 27 = .ok (.ifCond .eq 5, 3) := by decide +kernel
theorem dX12_isBeside_30 : decode cX12_isBeside 30 = .ok (.iconst 1, 1) := by decide +kernel
theorem dX12_isBeside_31 : decode cX12_isBeside 31 = .ok (.ireturn, 1) := by decide +kernel
theorem dX12_isBeside_32 : decode cX12_isBeside 32 = .ok (.iinc 2 1, 3) := by decide +kernel
theorem dX12_isBeside_35 : decode cX12_isBeside 35 = .ok (.goto (-33), 3) := by decide +kernel
theorem dX12_isBeside_38 : decode cX12_isBeside 38 = .ok (.iconst 0, 1) := by decide +kernel
theorem dX12_isBeside_39 : decode cX12_isBeside 39 = .ok (.ireturn, 1) := by decide +kernel
theorem dX12_pathBy_0 : decode cX12_pathBy 0 = .ok (.iload_n 2, 1) := by decide +kernel
theorem dX12_pathBy_1 : decode cX12_pathBy 1 = .ok (.bipush 36, 2) := by decide +kernel
theorem dX12_pathBy_3 : decode cX12_pathBy 3 = .ok (.irem, 1) := by decide +kernel
theorem dX12_pathBy_4 : decode cX12_pathBy 4 = .ok (.istore_n 3, 1) := by decide +kernel
theorem dX12_pathBy_5 : decode cX12_pathBy 5 = .ok (.iload_n 2, 1) := by decide +kernel
theorem dX12_pathBy_6 : decode cX12_pathBy 6 = .ok (.bipush 36, 2) := by decide +kernel
theorem dX12_pathBy_8 : decode cX12_pathBy 8 = .ok (.idiv, 1) := by decide +kernel
theorem dX12_pathBy_9 : decode cX12_pathBy 9 = .ok (.istore 4, 2) := by decide +kernel
theorem dX12_pathBy_11 : decode cX12_pathBy 11 = .ok (.aload_n 0, 1) := by decide +kernel
theorem dX12_pathBy_12 : decode cX12_pathBy 12 = .ok (.getfield 87, 3) := by decide +kernel
theorem dX12_pathBy_15 : decode cX12_pathBy 15 = .ok (.iload_n 2, 1) := by decide +kernel
theorem dX12_pathBy_16 : decode cX12_pathBy 16 = .ok (.iaload, 1) := by decide +kernel
theorem dX12_pathBy_17 : decode cX12_pathBy 17 = .ok (.istore 5, 2) := by decide +kernel
theorem dX12_pathBy_19 : decode cX12_pathBy 19 = .ok (.aload_n 0, 1) := by decide +kernel
theorem dX12_pathBy_20 : decode cX12_pathBy 20 = .ok (.getfield 96, 3) := by decide +kernel
theorem dX12_pathBy_23 : decode cX12_pathBy 23 = .ok (.iload_n 2, 1) := by decide +kernel
theorem dX12_pathBy_24 : decode cX12_pathBy 24 = .ok (.iaload, 1) := by decide +kernel
theorem dX12_pathBy_25 : decode cX12_pathBy 25 = .ok (.istore 6, 2) := by decide +kernel
theorem dX12_pathBy_27 : decode cX12_pathBy 27 = .ok (.aload_n 0, 1) := by decide +kernel
theorem dX12_pathBy_28 : decode cX12_pathBy 28 = .ok (.getfield 105, 3) := by decide +kernel
theorem dX12_pathBy_31 : decode cX12_pathBy 31 = .ok (.iload_n 2, 1) := by decide +kernel
theorem dX12_pathBy_32 : decode cX12_pathBy 32 = .ok (.laload, 1) := by decide +kernel
theorem dX12_pathBy_33 : decode cX12_pathBy 33 = .ok (.lstore 7, 2) := by decide +kernel
theorem dX12_pathBy_35 : decode cX12_pathBy 35 = .ok (.iload_n 1, 1) := by decide +kernel
theorem dX12_pathBy_36 : decode cX12_pathBy 36 = .ok (.iconst 4, 1) := by decide +kernel
theorem dX12_pathBy_37 : decode cX12_pathBy 37 = .ok (.if_icmp .gt 91, 3) := by decide +kernel
theorem dX12_pathBy_40 : decode cX12_pathBy 40 = .ok (.iconst 0, 1) := by decide +kernel
theorem dX12_pathBy_41 : decode cX12_pathBy 41 = .ok (.istore 9, 2) := by decide +kernel
theorem dX12_pathBy_43 : decode cX12_pathBy 43 = .ok (.iconst 0, 1) := by decide +kernel
theorem dX12_pathBy_44 : decode cX12_pathBy 44 = .ok (.istore 10, 2) := by decide +kernel
theorem dX12_pathBy_46 : decode cX12_pathBy 46 = .ok (.iload 10, 2) := by decide +kernel
theorem dX12_pathBy_48 : decode cX12_pathBy 48 = .ok (.iconst 4, 1) := by decide +kernel
theorem dX12_pathBy_49 : decode cX12_pathBy 49 = .ok (.if_icmp .ge 76, 3) := by decide +kernel
theorem dX12_pathBy_52 : decode cX12_pathBy 52 = .ok (.iload_n 1, 1) := by decide +kernel
theorem dX12_pathBy_53 : decode cX12_pathBy 53 = .ok (.iconst 4, 1) := by decide +kernel
theorem dX12_pathBy_54 : decode cX12_pathBy 54 = .ok (.if_icmp .eq 9, 3) := by decide +kernel
theorem dX12_pathBy_57 : decode cX12_pathBy 57 = .ok (.iload_n 1, 1) := by decide +kernel
theorem dX12_pathBy_58 : decode cX12_pathBy 58 = .ok (.iload 10, 2) := by decide +kernel
theorem dX12_pathBy_60 : decode cX12_pathBy 60 = .ok (.if_icmp .ne 39, 3) := by decide +kernel
theorem dX12_pathBy_63 : decode cX12_pathBy 63 = .ok (.aload_n 0, 1) := by decide +kernel
theorem dX12_pathBy_64 : decode cX12_pathBy 64 = .ok (.aload_n 0, 1) := by decide +kernel
theorem dX12_pathBy_65 : decode cX12_pathBy 65 = .ok (.iload_n 3, 1) := by decide +kernel
theorem dX12_pathBy_66 : decode cX12_pathBy 66 = .ok (.iload 10, 2) := by decide +kernel
theorem dX12_pathBy_68 : decode cX12_pathBy 68 = .ok (.invokevirtual 322, 3) := by decide +kernel
theorem dX12_pathBy_71 : decode cX12_pathBy 71 = .ok (.iload 10, 2) := by decide +kernel
theorem dX12_pathBy_73 : decode cX12_pathBy 73 = .ok (.iload 5, 2) := by decide +kernel
theorem dX12_pathBy_75 : decode cX12_pathBy 75 = .ok (.iload 6, 2) := by decide +kernel
theorem dX12_pathBy_77 : decode cX12_pathBy 77 = .ok (.iconst 1, 1) := by decide +kernel
theorem dX12_pathBy_78 : decode cX12_pathBy 78 = .ok (.iadd, 1) := by decide +kernel
theorem dX12_pathBy_79 : decode cX12_pathBy 79 = .ok (.ldc2_w 409, 3) := by decide +kernel
theorem dX12_pathBy_82 : decode cX12_pathBy 82 = .ok (.lload 7, 2) := by decide +kernel
theorem dX12_pathBy_84 : decode cX12_pathBy 84 = .ok (.lmul, 1) := by decide +kernel
theorem dX12_pathBy_85 : decode cX12_pathBy 85 = .ok (.iload 10, 2) := by decide +kernel
theorem dX12_pathBy_87 : decode cX12_pathBy 87 = .ok (.i2l, 1) := by decide +kernel
theorem dX12_pathBy_88 : decode cX12_pathBy 88 = .ok (.ladd, 1) := by decide +kernel
theorem dX12_pathBy_89 : decode cX12_pathBy 89 = .ok (.invokevirtual 411, 3) := by decide +kernel
theorem dX12_pathBy_92 : decode cX12_pathBy 92 = .ok (.ifCond .eq 7, 3) := by decide +kernel
theorem dX12_pathBy_95 : decode cX12_pathBy 95 = .ok (.iconst 1, 1) := by decide +kernel
theorem dX12_pathBy_96 : decode cX12_pathBy 96 = .ok (.goto 4, 3) := by decide +kernel
theorem dX12_pathBy_99 : decode cX12_pathBy 99 = .ok (.iconst 0, 1) := by decide +kernel
theorem dX12_pathBy_100 : decode cX12_pathBy 100 = .ok (.istore 11, 2) := by decide +kernel
theorem dX12_pathBy_102 : decode cX12_pathBy 102 = .ok (.iload 9, 2) := by decide +kernel
theorem dX12_pathBy_104 : decode cX12_pathBy 104 = .ok (.ifCond .ne 8, 3) := by decide +kernel
theorem dX12_pathBy_107 : decode cX12_pathBy 107 = .ok (.iload 11, 2) := by decide +kernel
theorem dX12_pathBy_109 : decode cX12_pathBy 109 = .ok (.ifCond .eq 7, 3) := by decide +kernel
theorem dX12_pathBy_112 : decode cX12_pathBy 112 = .ok (.iconst 1, 1) := by decide +kernel
theorem dX12_pathBy_113 : decode cX12_pathBy 113 = .ok (.goto 4, 3) := by decide +kernel
theorem dX12_pathBy_116 : decode cX12_pathBy 116 = .ok (.iconst 0, 1) := by decide +kernel
theorem dX12_pathBy_117 : decode cX12_pathBy 117 = .ok (.istore 9, 2) := by decide +kernel
theorem dX12_pathBy_119 : decode cX12_pathBy 119 = .ok (.iinc 10 1, 3) := by decide +kernel
theorem dX12_pathBy_122 : decode cX12_pathBy 122 = .ok (.goto (-76), 3) := by decide +kernel
theorem dX12_pathBy_125 : decode cX12_pathBy 125 = .ok (.iload 9, 2) := by decide +kernel
theorem dX12_pathBy_127 : decode cX12_pathBy 127 = .ok (.ireturn, 1) := by decide +kernel
theorem dX12_pathBy_128 : decode cX12_pathBy 128 = .ok (.iload_n 1, 1) := by decide +kernel
theorem dX12_pathBy_129 : decode cX12_pathBy 129 = .ok (.iconst 5, 1) := by decide +kernel
theorem dX12_pathBy_130 : decode cX12_pathBy 130 = .ok (.if_icmp .ne 31, 3) := by decide +kernel
theorem dX12_pathBy_133 : decode cX12_pathBy 133 = .ok (.iload 4, 2) := by decide +kernel
theorem dX12_pathBy_135 : decode cX12_pathBy 135 = .ok (.iconst 4, 1) := by decide +kernel
theorem dX12_pathBy_136 : decode cX12_pathBy 136 = .ok (.if_icmp .ge 23, 3) := by decide +kernel
theorem dX12_pathBy_139 : decode cX12_pathBy 139 = .ok (.aload_n 0, 1) := by decide +kernel
theorem dX12_pathBy_140 : decode cX12_pathBy 140 = .ok (.iload_n 3, 1) := by decide +kernel
theorem dX12_pathBy_141 : decode cX12_pathBy 141 = .ok (.iload 4, 2) := by decide +kernel
theorem dX12_pathBy_143 : decode cX12_pathBy 143 = .ok (.iload 5, 2) := by decide +kernel
theorem dX12_pathBy_145 : decode cX12_pathBy 145 = .ok (.iload 6, 2) := by decide +kernel
theorem dX12_pathBy_147 : decode cX12_pathBy 147 = .ok (.lload 7, 2) := by decide +kernel
theorem dX12_pathBy_149 : decode cX12_pathBy 149 = .ok (.invokevirtual 415, 3) := by decide +kernel
theorem dX12_pathBy_152 : decode cX12_pathBy 152 = .ok (.ifCond .eq 7, 3) := by decide +kernel
theorem dX12_pathBy_155 : decode cX12_pathBy 155 = .ok (.iconst 1, 1) := by decide +kernel
theorem dX12_pathBy_156 : decode cX12_pathBy 156 = .ok (.goto 4, 3) := by decide +kernel
theorem dX12_pathBy_159 : decode cX12_pathBy 159 = .ok (.iconst 0, 1) := by decide +kernel
theorem dX12_pathBy_160 : decode cX12_pathBy 160 = .ok (.ireturn, 1) := by decide +kernel
theorem dX12_pathBy_161 : decode cX12_pathBy 161 = .ok (.iload_n 1, 1) := by decide +kernel
theorem dX12_pathBy_162 : decode cX12_pathBy 162 = .ok (.bipush 10, 2) := by decide +kernel
theorem dX12_pathBy_164 : decode cX12_pathBy 164 = .ok (.if_icmp .eq 22, 3) := by decide +kernel
theorem dX12_pathBy_167 : decode cX12_pathBy 167 = .ok (.aload_n 0, 1) := by decide +kernel
theorem dX12_pathBy_168 : decode cX12_pathBy 168 = .ok (.iload_n 3, 1) := by decide +kernel
theorem dX12_pathBy_169 : decode cX12_pathBy 169 = .ok (.invokevirtual 346, 3) := by decide +kernel
theorem dX12_pathBy_172 : decode cX12_pathBy 172 = .ok (.iload_n 1, 1) := by decide +kernel
theorem dX12_pathBy_173 : decode cX12_pathBy 173 = .ok (.bipush 8, 2) := by decide +kernel
theorem dX12_pathBy_175 : decode cX12_pathBy 175 = .ok (.if_icmp .ne 7, 3) := by decide +kernel
theorem dX12_pathBy_178 : decode cX12_pathBy 178 = .ok (.iconst 1, 1) := by decide +kernel
theorem dX12_pathBy_179 : decode cX12_pathBy 179 = .ok (.goto 4, 3) := by decide +kernel
theorem dX12_pathBy_182 : decode cX12_pathBy 182 = .ok (.iconst 0, 1) := by decide +kernel
theorem dX12_pathBy_183 : decode cX12_pathBy 183 = .ok (.if_icmp .ne 7, 3) := by decide +kernel
theorem dX12_pathBy_186 : decode cX12_pathBy 186 = .ok (.iconst 1, 1) := by decide +kernel
theorem dX12_pathBy_187 : decode cX12_pathBy 187 = .ok (.goto 4, 3) := by decide +kernel
theorem dX12_pathBy_190 : decode cX12_pathBy 190 = .ok (.iconst 0, 1) := by decide +kernel
theorem dX12_pathBy_191 : decode cX12_pathBy 191 = .ok (.istore 9, 2) := by decide +kernel
theorem dX12_pathBy_193 : decode cX12_pathBy 193 = .ok (.iload 9, 2) := by decide +kernel
theorem dX12_pathBy_195 : decode cX12_pathBy 195 = .ok (.ifCond .eq 16, 3) := by decide +kernel
theorem dX12_pathBy_198 : decode cX12_pathBy 198 = .ok (.aload_n 0, 1) := by decide +kernel
theorem dX12_pathBy_199 : decode cX12_pathBy 199 = .ok (.iload_n 3, 1) := by decide +kernel
theorem dX12_pathBy_200 : decode cX12_pathBy 200 = .ok (.iload 4, 2) := by decide +kernel
theorem dX12_pathBy_202 : decode cX12_pathBy 202 = .ok (.iload 5, 2) := by decide +kernel
theorem dX12_pathBy_204 : decode cX12_pathBy 204 = .ok (.iload 6, 2) := by decide +kernel
theorem dX12_pathBy_206 : decode cX12_pathBy 206 = .ok (.lload 7, 2) := by decide +kernel
theorem dX12_pathBy_208 : decode cX12_pathBy 208 = .ok (.invokevirtual 405, 3) := by decide +kernel
theorem dX12_pathBy_211 : decode cX12_pathBy 211 = .ok (.iload 9, 2) := by decide +kernel
theorem dX12_pathBy_213 : decode cX12_pathBy 213 = .ok (.ireturn, 1) := by decide +kernel
theorem dX12_pathsBy_0 : decode cX12_pathsBy 0 = .ok (.iconst 0, 1) := by decide +kernel
theorem dX12_pathsBy_1 : decode cX12_pathsBy 1 = .ok (.istore_n 3, 1) := by decide +kernel
theorem dX12_pathsBy_2 : decode cX12_pathsBy 2 = .ok (.iload_n 3, 1) := by decide +kernel
theorem dX12_pathsBy_3 : decode cX12_pathsBy 3 = .ok (.sipush 180, 3) := by decide +kernel
theorem dX12_pathsBy_6 : decode cX12_pathsBy 6 = .ok (.if_icmp .ge 16, 3) := by decide +kernel
theorem dX12_pathsBy_9 : decode cX12_pathsBy 9 = .ok (.aload_n 0, 1) := by decide +kernel
theorem dX12_pathsBy_10 : decode cX12_pathsBy 10 = .ok (.getfield 90, 3) := by decide +kernel
theorem dX12_pathsBy_13 : decode cX12_pathsBy 13 = .ok (.iload_n 3, 1) := by decide +kernel
theorem dX12_pathsBy_14 : decode cX12_pathsBy 14 = .ok (.iconst 0, 1) := by decide +kernel
theorem dX12_pathsBy_15 : decode cX12_pathsBy 15 = .ok (.iastore, 1) := by decide +kernel
theorem dX12_pathsBy_16 : decode cX12_pathsBy 16 = .ok (.iinc 3 1, 3) := by decide +kernel
theorem dX12_pathsBy_19 : decode cX12_pathsBy 19 = .ok (.goto (-17), 3) := by decide +kernel
theorem dX12_pathsBy_22 : decode cX12_pathsBy 22 = .ok (.iconst 0, 1) := by decide +kernel
theorem dX12_pathsBy_23 : decode cX12_pathsBy 23 = .ok (.istore_n 3, 1) := by decide +kernel
theorem dX12_pathsBy_24 : decode cX12_pathsBy 24 = .ok (.iload_n 3, 1) := by decide +kernel
theorem dX12_pathsBy_25 : decode cX12_pathsBy 25 = .ok (.sipush 180, 3) := by decide +kernel
theorem dX12_pathsBy_28 : decode cX12_pathsBy 28 = .ok (.if_icmp .ge 61, 3) := by decide +kernel
theorem dX12_pathsBy_31 : decode cX12_pathsBy 31 = .ok (.aload_n 0, 1) := by decide +kernel
theorem dX12_pathsBy_32 : decode cX12_pathsBy 32 = .ok (.getfield 87, 3) := by decide +kernel
theorem dX12_pathsBy_35 : decode cX12_pathsBy 35 = .ok (.iload_n 3, 1) := by decide +kernel
theorem dX12_pathsBy_36 : decode cX12_pathsBy 36 = .ok (.iaload, 1) := by decide +kernel
theorem dX12_pathsBy_37 : decode cX12_pathsBy 37 = .ok (.ifCond .le 46, 3) := by decide +kernel
theorem dX12_pathsBy_40 : decode cX12_pathsBy 40 = .ok (.aload_n 0, 1) := by decide +kernel
theorem dX12_pathsBy_41 : decode cX12_pathsBy 41 = .ok (.iload_n 1, 1) := by decide +kernel
theorem dX12_pathsBy_42 : decode cX12_pathsBy 42 = .ok (.iload_n 3, 1) := by decide +kernel
theorem dX12_pathsBy_43 : decode cX12_pathsBy 43 = .ok (.invokevirtual 418, 3) := by decide +kernel
theorem dX12_pathsBy_46 : decode cX12_pathsBy 46 = .ok (.ifCond .ne 37, 3) := by decide +kernel
theorem dX12_pathsBy_49 : decode cX12_pathsBy 49 = .ok (.iload_n 2, 1) := by decide +kernel
theorem dX12_pathsBy_50 : decode cX12_pathsBy 50 = .ok (.ifCond .eq 33, 3) := by decide +kernel
theorem dX12_pathsBy_53 : decode cX12_pathsBy 53 = .ok (.aload_n 0, 1) := by decide +kernel
theorem dX12_pathsBy_54 : decode cX12_pathsBy 54 = .ok (.iload_n 3, 1) := by decide +kernel
theorem dX12_pathsBy_55 : decode cX12_pathsBy 55 = .ok (.bipush 36, 2) := by decide +kernel
theorem dX12_pathsBy_57 : decode cX12_pathsBy 57 = .ok (.irem, 1) := by decide +kernel
theorem dX12_pathsBy_58 : decode cX12_pathsBy 58 = .ok (.iload_n 3, 1) := by decide +kernel
theorem dX12_pathsBy_59 : decode cX12_pathsBy 59 = .ok (.bipush 36, 2) := by decide +kernel
theorem dX12_pathsBy_61 : decode cX12_pathsBy 61 = .ok (.idiv, 1) := by decide +kernel
theorem dX12_pathsBy_62 : decode cX12_pathsBy 62 = .ok (.aload_n 0, 1) := by decide +kernel
theorem dX12_pathsBy_63 : decode cX12_pathsBy 63 = .ok (.getfield 87, 3) := by decide +kernel
theorem dX12_pathsBy_66 : decode cX12_pathsBy 66 = .ok (.iload_n 3, 1) := by decide +kernel
theorem dX12_pathsBy_67 : decode cX12_pathsBy 67 = .ok (.iaload, 1) := by decide +kernel
theorem dX12_pathsBy_68 : decode cX12_pathsBy 68 = .ok (.aload_n 0, 1) := by decide +kernel
theorem dX12_pathsBy_69 : decode cX12_pathsBy 69 = .ok (.getfield 96, 3) := by decide +kernel
theorem dX12_pathsBy_72 : decode cX12_pathsBy 72 = .ok (.iload_n 3, 1) := by decide +kernel
theorem dX12_pathsBy_73 : decode cX12_pathsBy 73 = .ok (.iaload, 1) := by decide +kernel
theorem dX12_pathsBy_74 : decode cX12_pathsBy 74 = .ok (.aload_n 0, 1) := by decide +kernel
theorem dX12_pathsBy_75 : decode cX12_pathsBy 75 = .ok (.getfield 105, 3) := by decide +kernel
theorem dX12_pathsBy_78 : decode cX12_pathsBy 78 = .ok (.iload_n 3, 1) := by decide +kernel
theorem dX12_pathsBy_79 : decode cX12_pathsBy 79 = .ok (.laload, 1) := by decide +kernel
theorem dX12_pathsBy_80 : decode cX12_pathsBy 80 = .ok (.invokevirtual 405, 3) := by decide +kernel
theorem dX12_pathsBy_83 : decode cX12_pathsBy 83 = .ok (.iinc 3 1, 3) := by decide +kernel
theorem dX12_pathsBy_86 : decode cX12_pathsBy 86 = .ok (.goto (-62), 3) := by decide +kernel
theorem dX12_pathsBy_89 : decode cX12_pathsBy 89 = .ok (.iconst 0, 1) := by decide +kernel
theorem dX12_pathsBy_90 : decode cX12_pathsBy 90 = .ok (.istore_n 3, 1) := by decide +kernel
theorem dX12_pathsBy_91 : decode cX12_pathsBy 91 = .ok (.iload_n 3, 1) := by decide +kernel
theorem dX12_pathsBy_92 : decode cX12_pathsBy 92 = .ok (.sipush 180, 3) := by decide +kernel
theorem dX12_pathsBy_95 : decode cX12_pathsBy 95 = .ok (.if_icmp .ge 45, 3) := by decide +kernel
theorem dX12_pathsBy_98 : decode cX12_pathsBy 98 = .ok (.aload_n 0, 1) := by decide +kernel
theorem dX12_pathsBy_99 : decode cX12_pathsBy 99 = .ok (.getfield 87, 3) := by decide +kernel
theorem dX12_pathsBy_102 : decode cX12_pathsBy 102 = .ok (.iload_n 3, 1) := by decide +kernel
theorem dX12_pathsBy_103 : decode cX12_pathsBy 103 = .ok (.aload_n 0, 1) := by decide +kernel
theorem dX12_pathsBy_104 : decode cX12_pathsBy 104 = .ok (.getfield 90, 3) := by decide +kernel
theorem dX12_pathsBy_107 : decode cX12_pathsBy 107 = .ok (.iload_n 3, 1) := by decide +kernel
theorem dX12_pathsBy_108 : decode cX12_pathsBy 108 = .ok (.iaload, 1) := by decide +kernel
theorem dX12_pathsBy_109 : decode cX12_pathsBy 109 = .ok (.iastore, 1) := by decide +kernel
theorem dX12_pathsBy_110 : decode cX12_pathsBy 110 = .ok (.aload_n 0, 1) := by decide +kernel
theorem dX12_pathsBy_111 : decode cX12_pathsBy 111 = .ok (.getfield 96, 3) := by decide +kernel
theorem dX12_pathsBy_114 : decode cX12_pathsBy 114 = .ok (.iload_n 3, 1) := by decide +kernel
theorem dX12_pathsBy_115 : decode cX12_pathsBy 115 = .ok (.aload_n 0, 1) := by decide +kernel
theorem dX12_pathsBy_116 : decode cX12_pathsBy 116 = .ok (.getfield 99, 3) := by decide +kernel
theorem dX12_pathsBy_119 : decode cX12_pathsBy 119 = .ok (.iload_n 3, 1) := by decide +kernel
theorem dX12_pathsBy_120 : decode cX12_pathsBy 120 = .ok (.iaload, 1) := by decide +kernel
theorem dX12_pathsBy_121 : decode cX12_pathsBy 121 = .ok (.iastore, 1) := by decide +kernel
theorem dX12_pathsBy_122 : decode cX12_pathsBy 122 = .ok (.aload_n 0, 1) := by decide +kernel
theorem dX12_pathsBy_123 : decode cX12_pathsBy 123 = .ok (.getfield 105, 3) := by decide +kernel
theorem dX12_pathsBy_126 : decode cX12_pathsBy 126 = .ok (.iload_n 3, 1) := by decide +kernel
theorem dX12_pathsBy_127 : decode cX12_pathsBy 127 = .ok (.aload_n 0, 1) := by decide +kernel
theorem dX12_pathsBy_128 : decode cX12_pathsBy 128 = .ok (.getfield 108, 3) := by decide +kernel
theorem dX12_pathsBy_131 : decode cX12_pathsBy 131 = .ok (.iload_n 3, 1) := by decide +kernel
theorem dX12_pathsBy_132 : decode cX12_pathsBy 132 = .ok (.laload, 1) := by decide +kernel
theorem dX12_pathsBy_133 : decode cX12_pathsBy 133 = .ok (.lastore, 1) := by decide +kernel
theorem dX12_pathsBy_134 : decode cX12_pathsBy 134 = .ok (.iinc 3 1, 3) := by decide +kernel
theorem dX12_pathsBy_137 : decode cX12_pathsBy 137 = .ok (.goto (-46), 3) := by decide +kernel
theorem dX12_pathsBy_140 : decode cX12_pathsBy 140 = .ok (.return_, 1) := by decide +kernel
theorem dX12_isTurn_0 : decode cX12_isTurn 0 = .ok (.iload_n 0, 1) := by decide +kernel
theorem dX12_isTurn_1 : decode cX12_isTurn 1 = .ok (.bipush 6, 2) := by decide +kernel
theorem dX12_isTurn_3 : decode cX12_isTurn 3 = .ok (.if_icmp .eq 9, 3) := by decide +kernel
theorem dX12_isTurn_6 : decode cX12_isTurn 6 = .ok (.iload_n 0, 1) := by decide +kernel
theorem dX12_isTurn_7 : decode cX12_isTurn 7 = .ok (.bipush 7, 2) := by decide +kernel
theorem dX12_isTurn_9 : decode cX12_isTurn 9 = .ok (.if_icmp .ne 7, 3) := by decide +kernel
theorem dX12_isTurn_12 : decode cX12_isTurn 12 = .ok (.iconst 1, 1) := by decide +kernel
theorem dX12_isTurn_13 : decode cX12_isTurn 13 = .ok (.goto 4, 3) := by decide +kernel
theorem dX12_isTurn_16 : decode cX12_isTurn 16 = .ok (.iconst 0, 1) := by decide +kernel
theorem dX12_isTurn_17 : decode cX12_isTurn 17 = .ok (.ireturn, 1) := by decide +kernel
theorem dX12_look_0 : decode cX12_look 0 = .ok (.aload_n 0, 1) := by decide +kernel
theorem dX12_look_1 : decode cX12_look 1 = .ok (.lconst 0, 1) := by decide +kernel
theorem dX12_look_2 : decode cX12_look 2 = .ok (.putfield 312, 3) := by decide +kernel
theorem dX12_look_5 : decode cX12_look 5 = .ok (.aload_n 0, 1) := by decide +kernel
theorem dX12_look_6 : decode cX12_look 6 = .ok (.lconst 0, 1) := by decide +kernel
theorem dX12_look_7 : decode cX12_look 7 = .ok (.putfield 315, 3) := by decide +kernel
theorem dX12_look_10 : decode cX12_look 10 = .ok (.iconst 0, 1) := by decide +kernel
theorem dX12_look_11 : decode cX12_look 11 = .ok (.istore_n 2, 1) := by decide +kernel
theorem dX12_look_12 : decode cX12_look 12 = .ok (.iload_n 2, 1) := by decide +kernel
theorem dX12_look_13 : decode cX12_look 13 = .ok (.aload_n 0, 1) := by decide +kernel
theorem dX12_look_14 : decode cX12_look 14 = .ok (.getfield 287, 3) := by decide +kernel
theorem dX12_look_17 : decode cX12_look 17 = .ok (.if_icmp .ge 96, 3) := by decide +kernel
theorem dX12_look_20 : decode cX12_look 20 = .ok (.iload_n 2, 1) := by decide +kernel
theorem dX12_look_21 : decode cX12_look 21 = .ok (.iload_n 1, 1) := by decide +kernel
theorem dX12_look_22 : decode cX12_look 22 = .ok (.if_icmp .eq 85, 3) := by decide +kernel
theorem dX12_look_25 : decode cX12_look 25 = .ok (.aload_n 0, 1) := by decide +kernel
theorem dX12_look_26 : decode cX12_look 26 = .ok (.getfield 44, 3) := by decide +kernel
theorem dX12_look_29 : decode cX12_look 29 = .ok (.iload_n 2, 1) := by decide +kernel
theorem dX12_look_30 : decode cX12_look 30 = .ok (.iaload, 1) := by decide +kernel
theorem dX12_look_31 : decode cX12_look 31 = .ok (.iconst (-1), 1) := by decide +kernel
theorem dX12_look_32 : decode cX12_look 32 = .ok (.if_icmp .eq 75, 3) := by decide +kernel
theorem dX12_look_35 : decode cX12_look 35 = .ok (.aload_n 0, 1) := by decide +kernel
theorem dX12_look_36 : decode cX12_look 36 = .ok (.dup, 1) := by decide +kernel
theorem dX12_look_37 : decode cX12_look 37 = .ok (.getfield 312, 3) := by decide +kernel
theorem dX12_look_40 : decode cX12_look 40 = .ok (.aload_n 0, 1) := by decide +kernel
theorem dX12_look_41 : decode cX12_look 41 = .ok (.getfield 41, 3) := by decide +kernel
theorem dX12_look_44 : decode cX12_look 44 = .ok (.iload_n 2, 1) := by decide +kernel
theorem dX12_look_45 : decode cX12_look 45 = .ok (.iaload, 1) := by decide +kernel
theorem dX12_look_46 : decode cX12_look 46 = .ok (.aload_n 0, 1) := by decide +kernel
theorem dX12_look_47 : decode cX12_look 47 = .ok (.getfield 41, 3) := by decide +kernel
theorem dX12_look_50 : decode cX12_look 50 = .ok (.iload_n 1, 1) := by decide +kernel
theorem dX12_look_51 : decode cX12_look 51 = .ok (.iaload, 1) := by decide +kernel
theorem dX12_look_52 : decode cX12_look 52 = .ok (.if_icmp .ne 14, 3) := by decide +kernel
theorem dX12_look_55 : decode cX12_look 55 = .ok (.lconst 1, 1) := by decide +kernel
theorem dX12_look_56 : decode cX12_look 56 = .ok (.aload_n 0, 1) := by decide +kernel
theorem dX12_look_57 : decode cX12_look 57 = .ok (.getfield 44, 3) := by decide +kernel
theorem dX12_look_60 : decode cX12_look 60 = .ok (.iload_n 2, 1) := by decide +kernel
theorem dX12_look_61 : decode cX12_look 61 = .ok (.iaload, 1) := by decide +kernel
theorem dX12_look_62 : decode cX12_look 62 = .ok (.lshl, 1) := by decide +kernel
theorem dX12_look_63 : decode cX12_look 63 = .ok (.goto 4, 3) := by decide +kernel
theorem dX12_look_66 : decode cX12_look 66 = .ok (.lconst 0, 1) := by decide +kernel
theorem dX12_look_67 : decode cX12_look 67 = .ok (.lor, 1) := by decide +kernel
theorem dX12_look_68 : decode cX12_look 68 = .ok (.putfield 312, 3) := by decide +kernel
theorem dX12_look_71 : decode cX12_look 71 = .ok (.aload_n 0, 1) := by decide +kernel
theorem dX12_look_72 : decode cX12_look 72 = .ok (.dup, 1) := by decide +kernel
theorem dX12_look_73 : decode cX12_look 73 = .ok (.getfield 315, 3) := by decide +kernel
theorem dX12_look_76 : decode cX12_look 76 = .ok (.aload_n 0, 1) := by decide +kernel
theorem dX12_look_77 : decode cX12_look 77 = .ok (.getfield 41, 3) := by decide +kernel
theorem dX12_look_80 : decode cX12_look 80 = .ok (.iload_n 2, 1) := by decide +kernel
theorem dX12_look_81 : decode cX12_look 81 = .ok (.iaload, 1) := by decide +kernel
theorem dX12_look_82 : decode cX12_look 82 = .ok (.aload_n 0, 1) := by decide +kernel
theorem dX12_look_83 : decode cX12_look 83 = .ok (.getfield 41, 3) := by decide +kernel
theorem dX12_look_86 : decode cX12_look 86 = .ok (.iload_n 1, 1) := by decide +kernel
theorem dX12_look_87 : decode cX12_look 87 = .ok (.iaload, 1) := by decide +kernel
theorem dX12_look_88 : decode cX12_look 88 = .ok (.if_icmp .ne 7, 3) := by decide +kernel
theorem dX12_look_91 : decode cX12_look 91 = .ok (.lconst 0, 1) := by decide +kernel
theorem dX12_look_92 : decode cX12_look 92 = .ok (.goto 11, 3) := by decide +kernel
theorem dX12_look_95 : decode cX12_look 95 = .ok (.lconst 1, 1) := by decide +kernel
theorem dX12_look_96 : decode cX12_look 96 = .ok (.aload_n 0, 1) := by decide +kernel
theorem dX12_look_97 : decode cX12_look 97 = .ok (.getfield 44, 3) := by decide +kernel
theorem dX12_look_100 : decode cX12_look 100 = .ok (.iload_n 2, 1) := by decide +kernel
theorem dX12_look_101 : decode cX12_look 101 = .ok (.iaload, 1) := by decide +kernel
theorem dX12_look_102 : decode cX12_look 102 = .ok (.lshl, 1) := by decide +kernel
theorem dX12_look_103 : decode cX12_look 103 = .ok (.lor, 1) := by decide +kernel
theorem dX12_look_104 : decode cX12_look 104 = .ok (.putfield 315, 3) := by decide +kernel
theorem dX12_look_107 : decode cX12_look 107 = .ok (.iinc 2 1, 3) := by decide +kernel
theorem dX12_look_110 : decode cX12_look 110 = .ok (.goto (-98), 3) := by decide +kernel
theorem dX12_look_113 : decode cX12_look 113 = .ok (.return_, 1) := by decide +kernel
theorem dX12_findPaths_0 : decode cX12_findPaths 0 = .ok (.aload_n 0, 1) := by decide +kernel
theorem dX12_findPaths_1 : decode cX12_findPaths 1 = .ok (.iload_n 1, 1) := by decide +kernel
theorem dX12_findPaths_2 : decode cX12_findPaths 2 = .ok (.invokevirtual 373, 3) := by decide +kernel
theorem dX12_findPaths_5 : decode cX12_findPaths 5 = .ok (.iconst 0, 1) := by decide +kernel
theorem dX12_findPaths_6 : decode cX12_findPaths 6 = .ok (.istore_n 2, 1) := by decide +kernel
theorem dX12_findPaths_7 : decode cX12_findPaths 7 = .ok (.iload_n 2, 1) := by decide +kernel
theorem dX12_findPaths_8 : decode cX12_findPaths 8 = .ok (.sipush 180, 3) := by decide +kernel
theorem dX12_findPaths_11 : decode cX12_findPaths 11 = .ok (.if_icmp .ge 16, 3) := by decide +kernel
theorem dX12_findPaths_14 : decode cX12_findPaths 14 = .ok (.aload_n 0, 1) := by decide +kernel
theorem dX12_findPaths_15 : decode cX12_findPaths 15 = .ok (.getfield 87, 3) := by decide +kernel
theorem dX12_findPaths_18 : decode cX12_findPaths 18 = .ok (.iload_n 2, 1) := by decide +kernel
theorem dX12_findPaths_19 : decode cX12_findPaths 19 = .ok (.iconst 0, 1) := by decide +kernel
theorem dX12_findPaths_20 : decode cX12_findPaths 20 = .ok (.iastore, 1) := by decide +kernel
theorem dX12_findPaths_21 : decode cX12_findPaths 21 = .ok (.iinc 2 1, 3) := by decide +kernel
theorem dX12_findPaths_24 : decode cX12_findPaths 24 = .ok (.goto (-17), 3) := by decide +kernel
theorem dX12_findPaths_27 : decode cX12_findPaths 27 = .ok (.iconst 0, 1) := by decide +kernel
theorem dX12_findPaths_28 : decode cX12_findPaths 28 = .ok (.istore_n 2, 1) := by decide +kernel
theorem dX12_findPaths_29 : decode cX12_findPaths 29 = .ok (.iload_n 2, 1) := by decide +kernel
theorem dX12_findPaths_30 : decode cX12_findPaths 30 = .ok (.bipush 36, 2) := by decide +kernel
theorem dX12_findPaths_32 : decode cX12_findPaths 32 = .ok (.if_icmp .ge 16, 3) := by decide +kernel
theorem dX12_findPaths_35 : decode cX12_findPaths 35 = .ok (.aload_n 0, 1) := by decide +kernel
theorem dX12_findPaths_36 : decode cX12_findPaths 36 = .ok (.getfield 114, 3) := by decide +kernel
theorem dX12_findPaths_39 : decode cX12_findPaths 39 = .ok (.iload_n 2, 1) := by decide +kernel
theorem dX12_findPaths_40 : decode cX12_findPaths 40 = .ok (.iconst 0, 1) := by decide +kernel
theorem dX12_findPaths_41 : decode cX12_findPaths 41 = .ok (.iastore, 1) := by decide +kernel
theorem dX12_findPaths_42 : decode cX12_findPaths 42 = .ok (.iinc 2 1, 3) := by decide +kernel
theorem dX12_findPaths_45 : decode cX12_findPaths 45 = .ok (.goto (-16), 3) := by decide +kernel
theorem dX12_findPaths_48 : decode cX12_findPaths 48 = .ok (.sipush 144, 3) := by decide +kernel
theorem dX12_findPaths_51 : decode cX12_findPaths 51 = .ok (.aload_n 0, 1) := by decide +kernel
theorem dX12_findPaths_52 : decode cX12_findPaths 52 = .ok (.getfield 44, 3) := by decide +kernel
theorem dX12_findPaths_55 : decode cX12_findPaths 55 = .ok (.iload_n 1, 1) := by decide +kernel
theorem dX12_findPaths_56 : decode cX12_findPaths 56 = .ok (.iaload, 1) := by decide +kernel
theorem dX12_findPaths_57 : decode cX12_findPaths 57 = .ok (.iadd, 1) := by decide +kernel
theorem dX12_findPaths_58 : decode cX12_findPaths 58 = .ok (.istore_n 2, 1) := by decide +kernel
theorem dX12_findPaths_59 : decode cX12_findPaths 59 = .ok (.aload_n 0, 1) := by decide +kernel
theorem dX12_findPaths_60 : decode cX12_findPaths 60 = .ok (.getfield 87, 3) := by decide +kernel
theorem dX12_findPaths_63 : decode cX12_findPaths 63 = .ok (.iload_n 2, 1) := by decide +kernel
theorem dX12_findPaths_64 : decode cX12_findPaths 64 = .ok (.iconst 1, 1) := by decide +kernel
theorem dX12_findPaths_65 : decode cX12_findPaths 65 = .ok (.iastore, 1) := by decide +kernel
theorem dX12_findPaths_66 : decode cX12_findPaths 66 = .ok (.aload_n 0, 1) := by decide +kernel
theorem dX12_findPaths_67 : decode cX12_findPaths 67 = .ok (.getfield 96, 3) := by decide +kernel
theorem dX12_findPaths_70 : decode cX12_findPaths 70 = .ok (.iload_n 2, 1) := by decide +kernel
theorem dX12_findPaths_71 : decode cX12_findPaths 71 = .ok (.iconst 0, 1) := by decide +kernel
theorem dX12_findPaths_72 : decode cX12_findPaths 72 = .ok (.iastore, 1) := by decide +kernel
theorem dX12_findPaths_73 : decode cX12_findPaths 73 = .ok (.aload_n 0, 1) := by decide +kernel
theorem dX12_findPaths_74 : decode cX12_findPaths 74 = .ok (.getfield 105, 3) := by decide +kernel
theorem dX12_findPaths_77 : decode cX12_findPaths 77 = .ok (.iload_n 2, 1) := by decide +kernel
theorem dX12_findPaths_78 : decode cX12_findPaths 78 = .ok (.lconst 0, 1) := by decide +kernel
theorem dX12_findPaths_79 : decode cX12_findPaths 79 = .ok (.lastore, 1) := by decide +kernel
theorem dX12_findPaths_80 : decode cX12_findPaths 80 = .ok (.iconst 1, 1) := by decide +kernel
theorem dX12_findPaths_81 : decode cX12_findPaths 81 = .ok (.istore_n 3, 1) := by decide +kernel
theorem dX12_findPaths_82 : decode cX12_findPaths 82 = .ok (.iload_n 3, 1) := by decide +kernel
theorem dX12_findPaths_83 : decode cX12_findPaths 83 = .ok (.aload_n 0, 1) := by decide +kernel
theorem dX12_findPaths_84 : decode cX12_findPaths 84 = .ok (.getfield 75, 3) := by decide +kernel
theorem dX12_findPaths_87 : decode cX12_findPaths 87 = .ok (.iconst 0, 1) := by decide +kernel
theorem dX12_findPaths_88 : decode cX12_findPaths 88 = .ok (.iaload, 1) := by decide +kernel
theorem dX12_findPaths_89 : decode cX12_findPaths 89 = .ok (.if_icmp .gt 127, 3) := by decide +kernel
theorem dX12_findPaths_92 : decode cX12_findPaths 92 = .ok (.aload_n 0, 1) := by decide +kernel
theorem dX12_findPaths_93 : decode cX12_findPaths 93 = .ok (.getfield 75, 3) := by decide +kernel
theorem dX12_findPaths_96 : decode cX12_findPaths 96 = .ok (.iload_n 3, 1) := by decide +kernel
theorem dX12_findPaths_97 : decode cX12_findPaths 97 = .ok (.iaload, 1) := by decide +kernel
theorem dX12_findPaths_98 : decode cX12_findPaths 98 = .ok (.istore 4, 2) := by decide +kernel
theorem dX12_findPaths_100 : decode cX12_findPaths 100 = .ok (.iload_n 3, 1) := by decide +kernel
theorem dX12_findPaths_101 : decode cX12_findPaths 101 = .ok (.aload_n 0, 1) := by decide +kernel
theorem dX12_findPaths_102 : decode cX12_findPaths 102 = .ok (.getfield 75, 3) := by decide +kernel
theorem dX12_findPaths_105 : decode cX12_findPaths 105 = .ok (.iconst 0, 1) := by decide +kernel
theorem dX12_findPaths_106 : decode cX12_findPaths 106 = .ok (.iaload, 1) := by decide +kernel
theorem dX12_findPaths_107 : decode cX12_findPaths 107 = .ok (.if_icmp .ge 14, 3) := by decide +kernel
theorem dX12_findPaths_110 : decode cX12_findPaths 110 = .ok (.aload_n 0, 1) := by decide +kernel
theorem dX12_findPaths_111 : decode cX12_findPaths 111 = .ok (.getfield 75, 3) := by decide +kernel
theorem dX12_findPaths_114 : decode cX12_findPaths 114 = .ok (.iload_n 3, 1) := by decide +kernel
theorem dX12_findPaths_115 : decode cX12_findPaths 115 = .ok (.iconst 1, 1) := by decide +kernel
theorem dX12_findPaths_116 : decode cX12_findPaths 116 = .ok (.iadd, 1) := by decide +kernel
theorem dX12_findPaths_117 : decode cX12_findPaths 117 = .ok (.iaload, 1) := by decide +kernel
theorem dX12_findPaths_118 : decode cX12_findPaths 118 = .ok (.goto 4, 3) := by decide +kernel
theorem dX12_findPaths_121 : decode cX12_findPaths 121 = .ok (.iconst (-1), 1) := by decide +kernel
theorem dX12_findPaths_122 : decode cX12_findPaths 122 = .ok (.istore 5, 2) := by decide +kernel
theorem dX12_findPaths_124 : decode cX12_findPaths 124 = .ok (.iinc 3 1, 3) := by decide +kernel
theorem dX12_findPaths_127 : decode cX12_findPaths 127 = .ok (.iload 4, 2) := by decide +kernel
theorem dX12_findPaths_129 : decode cX12_findPaths 129 = .ok (.invokestatic 364, 3) := by decide +kernel
theorem dX12_findPaths_132 : decode cX12_findPaths 132 = .ok (.ifCond .eq 20, 3) := by decide +kernel
theorem dX12_findPaths_135 : decode cX12_findPaths 135 = .ok (.iload 5, 2) := by decide +kernel
theorem dX12_findPaths_137 : decode cX12_findPaths 137 = .ok (.iconst (-1), 1) := by decide +kernel
theorem dX12_findPaths_138 : decode cX12_findPaths 138 = .ok (.if_icmp .eq (-56), 3) := by decide +kernel
theorem dX12_findPaths_141 : decode cX12_findPaths 141 = .ok (.iload 5, 2) := by decide +kernel
theorem dX12_findPaths_143 : decode cX12_findPaths 143 = .ok (.invokestatic 364, 3) := by decide +kernel
theorem dX12_findPaths_146 : decode cX12_findPaths 146 = .ok (.ifCond .eq 6, 3) := by decide +kernel
theorem dX12_findPaths_149 : decode cX12_findPaths 149 = .ok (.goto (-67), 3) := by decide +kernel
theorem dX12_findPaths_152 : decode cX12_findPaths 152 = .ok (.iload_n 3, 1) := by decide +kernel
theorem dX12_findPaths_153 : decode cX12_findPaths 153 = .ok (.iload 4, 2) := by decide +kernel
theorem dX12_findPaths_155 : decode cX12_findPaths 155 = .ok (.invokestatic 364, 3) := by decide +kernel
theorem dX12_findPaths_158 : decode cX12_findPaths 158 = .ok (.ifCond .eq 7, 3) := by decide +kernel
theorem dX12_findPaths_161 : decode cX12_findPaths 161 = .ok (.iconst 1, 1) := by decide +kernel
theorem dX12_findPaths_162 : decode cX12_findPaths 162 = .ok (.goto 4, 3) := by decide +kernel
theorem dX12_findPaths_165 : decode cX12_findPaths 165 = .ok (.iconst 0, 1) := by decide +kernel
theorem dX12_findPaths_166 : decode cX12_findPaths 166 = .ok (.iadd, 1) := by decide +kernel
theorem dX12_findPaths_167 : decode cX12_findPaths 167 = .ok (.istore_n 3, 1) := by decide +kernel
theorem dX12_findPaths_168 : decode cX12_findPaths 168 = .ok (.aload_n 0, 1) := by decide +kernel
theorem dX12_findPaths_169 : decode cX12_findPaths 169 = .ok (.iload 4, 2) := by decide +kernel
theorem dX12_findPaths_171 : decode cX12_findPaths 171 = .ok (.invokestatic 364, 3) := by decide +kernel
theorem dX12_findPaths_174 : decode cX12_findPaths 174 = .ok (.ifCond .eq 8, 3) := by decide +kernel
theorem dX12_findPaths_177 : decode cX12_findPaths 177 = .ok (.iload 5, 2) := by decide +kernel
theorem dX12_findPaths_179 : decode cX12_findPaths 179 = .ok (.goto 5, 3) := by decide +kernel
theorem dX12_findPaths_182 : decode cX12_findPaths 182 = .ok (.iload 4, 2) := by decide +kernel
theorem dX12_findPaths_184 : decode cX12_findPaths 184 = .ok (.iload 4, 2) := by decide +kernel
theorem dX12_findPaths_186 : decode cX12_findPaths 186 = .ok (.bipush 7, 2) := by decide +kernel
theorem dX12_findPaths_188 : decode cX12_findPaths 188 = .ok (.if_icmp .ne 7, 3) := by decide +kernel
theorem dX12_findPaths_191 : decode cX12_findPaths 191 = .ok (.iconst 1, 1) := by decide +kernel
theorem dX12_findPaths_192 : decode cX12_findPaths 192 = .ok (.goto 4, 3) := by decide +kernel
theorem dX12_findPaths_195 : decode cX12_findPaths 195 = .ok (.iconst 0, 1) := by decide +kernel
theorem dX12_findPaths_196 : decode cX12_findPaths 196 = .ok (.invokevirtual 421, 3) := by decide +kernel
theorem dX12_findPaths_199 : decode cX12_findPaths 199 = .ok (.iload 4, 2) := by decide +kernel
theorem dX12_findPaths_201 : decode cX12_findPaths 201 = .ok (.bipush 6, 2) := by decide +kernel
theorem dX12_findPaths_203 : decode cX12_findPaths 203 = .ok (.if_icmp .ne 10, 3) := by decide +kernel
theorem dX12_findPaths_206 : decode cX12_findPaths 206 = .ok (.aload_n 0, 1) := by decide +kernel
theorem dX12_findPaths_207 : decode cX12_findPaths 207 = .ok (.iload 5, 2) := by decide +kernel
theorem dX12_findPaths_209 : decode cX12_findPaths 209 = .ok (.iconst 0, 1) := by decide +kernel
theorem dX12_findPaths_210 : decode cX12_findPaths 210 = .ok (.invokevirtual 421, 3) := by decide +kernel
theorem dX12_findPaths_213 : decode cX12_findPaths 213 = .ok (.goto (-131), 3) := by decide +kernel
theorem dX12_findPaths_216 : decode cX12_findPaths 216 = .ok (.iconst 0, 1) := by decide +kernel
theorem dX12_findPaths_217 : decode cX12_findPaths 217 = .ok (.istore 4, 2) := by decide +kernel
theorem dX12_findPaths_219 : decode cX12_findPaths 219 = .ok (.iload 4, 2) := by decide +kernel
theorem dX12_findPaths_221 : decode cX12_findPaths 221 = .ok (.sipush 180, 3) := by decide +kernel
theorem dX12_findPaths_224 : decode cX12_findPaths 224 = .ok (.if_icmp .ge 49, 3) := by decide +kernel
theorem dX12_findPaths_227 : decode cX12_findPaths 227 = .ok (.aload_n 0, 1) := by decide +kernel
theorem dX12_findPaths_228 : decode cX12_findPaths 228 = .ok (.getfield 87, 3) := by decide +kernel
theorem dX12_findPaths_231 : decode cX12_findPaths 231 = .ok (.iload 4, 2) := by decide +kernel
theorem dX12_findPaths_233 : decode cX12_findPaths 233 = .ok (.iaload, 1) := by decide +kernel
theorem dX12_findPaths_234 : decode cX12_findPaths 234 = .ok (.ifCond .le 33, 3) := by decide +kernel
theorem dX12_findPaths_237 : decode cX12_findPaths 237 = .ok (.aload_n 0, 1) := by decide +kernel
theorem dX12_findPaths_238 : decode cX12_findPaths 238 = .ok (.iload 4, 2) := by decide +kernel
theorem dX12_findPaths_240 : decode cX12_findPaths 240 = .ok (.bipush 36, 2) := by decide +kernel
theorem dX12_findPaths_242 : decode cX12_findPaths 242 = .ok (.irem, 1) := by decide +kernel
theorem dX12_findPaths_243 : decode cX12_findPaths 243 = .ok (.aload_n 0, 1) := by decide +kernel
theorem dX12_findPaths_244 : decode cX12_findPaths 244 = .ok (.getfield 87, 3) := by decide +kernel
theorem dX12_findPaths_247 : decode cX12_findPaths 247 = .ok (.iload 4, 2) := by decide +kernel
theorem dX12_findPaths_249 : decode cX12_findPaths 249 = .ok (.iaload, 1) := by decide +kernel
theorem dX12_findPaths_250 : decode cX12_findPaths 250 = .ok (.aload_n 0, 1) := by decide +kernel
theorem dX12_findPaths_251 : decode cX12_findPaths 251 = .ok (.getfield 96, 3) := by decide +kernel
theorem dX12_findPaths_254 : decode cX12_findPaths 254 = .ok (.iload 4, 2) := by decide +kernel
theorem dX12_findPaths_256 : decode cX12_findPaths 256 = .ok (.iaload, 1) := by decide +kernel
theorem dX12_findPaths_257 : decode cX12_findPaths 257 = .ok (.aload_n 0, 1) := by decide +kernel
theorem dX12_findPaths_258 : decode cX12_findPaths 258 = .ok (.getfield 105, 3) := by decide +kernel
theorem dX12_findPaths_261 : decode cX12_findPaths 261 = .ok (.iload 4, 2) := by decide +kernel
theorem dX12_findPaths_263 : decode cX12_findPaths 263 = .ok (.laload, 1) := by decide +kernel
theorem dX12_findPaths_264 : decode cX12_findPaths 264 = .ok (.invokevirtual 401, 3) := by decide +kernel
theorem dX12_findPaths_267 : decode cX12_findPaths 267 = .ok (.iinc 4 1, 3) := by decide +kernel
theorem dX12_findPaths_270 : decode cX12_findPaths 270 = .ok (.goto (-51), 3) := by decide +kernel
theorem dX12_findPaths_273 : decode cX12_findPaths 273 = .ok (.return_, 1) := by decide +kernel
theorem dX12_isNew_0 : decode cX12_isNew 0 = .ok (.lload_n 1, 1) := by decide +kernel
theorem dX12_isNew_1 : decode cX12_isNew 1 = .ok (.ldc2_w 503, 3) := by decide +kernel
theorem dX12_isNew_4 : decode cX12_isNew 4 = .ok (.lmul, 1) := by decide +kernel
theorem dX12_isNew_5 : decode cX12_isNew 5 = .ok (.bipush 50, 2) := by decide +kernel
theorem dX12_isNew_7 : decode cX12_isNew 7 = .ok (.lushr, 1) := by decide +kernel
theorem dX12_isNew_8 : decode cX12_isNew 8 = .ok (.l2i, 1) := by decide +kernel
theorem dX12_isNew_9 : decode cX12_isNew 9 = .ok (.istore_n 3, 1) := by decide +kernel
theorem dX12_isNew_10 : decode cX12_isNew 10 = .ok (.aload_n 0, 1) := by decide +kernel
theorem dX12_isNew_11 : decode cX12_isNew 11 = .ok (.getfield 133, 3) := by decide +kernel
theorem dX12_isNew_14 : decode cX12_isNew 14 = .ok (.iload_n 3, 1) := by decide +kernel
theorem dX12_isNew_15 : decode cX12_isNew 15 = .ok (.baload, 1) := by decide +kernel
theorem dX12_isNew_16 : decode cX12_isNew 16 = .ok (.ifCond .eq 27, 3) := by decide +kernel
theorem dX12_isNew_19 : decode cX12_isNew 19 = .ok (.aload_n 0, 1) := by decide +kernel
theorem dX12_isNew_20 : decode cX12_isNew 20 = .ok (.getfield 130, 3) := by decide +kernel
theorem dX12_isNew_23 : decode cX12_isNew 23 = .ok (.iload_n 3, 1) := by decide +kernel
theorem dX12_isNew_24 : decode cX12_isNew 24 = .ok (.laload, 1) := by decide +kernel
theorem dX12_isNew_25 : decode cX12_isNew 25 = .ok (.lload_n 1, 1) := by decide +kernel
theorem dX12_isNew_26 : decode cX12_isNew 26 = .ok (.lcmp, 1) := by decide +kernel
theorem dX12_isNew_27 : decode cX12_isNew 27 = .ok (.ifCond .ne 5, 3) := by decide +kernel
theorem dX12_isNew_30 : decode cX12_isNew 30 = .ok (.iconst 0, 1) := by decide +kernel
theorem dX12_isNew_31 : decode cX12_isNew 31 = .ok (.ireturn, 1) := by decide +kernel
theorem dX12_isNew_32 : decode cX12_isNew 32 = .ok (.iload_n 3, 1) := by decide +kernel
theorem dX12_isNew_33 : decode cX12_isNew 33 = .ok (.iconst 1, 1) := by decide +kernel
theorem dX12_isNew_34 : decode cX12_isNew 34 = .ok (.iadd, 1) := by decide +kernel
theorem dX12_isNew_35 : decode cX12_isNew 35 = .ok (.sipush 16384, 3) := by decide +kernel
theorem dX12_isNew_38 : decode cX12_isNew 38 = .ok (.irem, 1) := by decide +kernel
theorem dX12_isNew_39 : decode cX12_isNew 39 = .ok (.istore_n 3, 1) := by decide +kernel
theorem dX12_isNew_40 : decode cX12_isNew 40 = .ok (.goto (-30), 3) := by decide +kernel
theorem dX12_isNew_43 : decode cX12_isNew 43 = .ok (.aload_n 0, 1) := by decide +kernel
theorem dX12_isNew_44 : decode cX12_isNew 44 = .ok (.getfield 133, 3) := by decide +kernel
theorem dX12_isNew_47 : decode cX12_isNew 47 = .ok (.iload_n 3, 1) := by decide +kernel
theorem dX12_isNew_48 : decode cX12_isNew 48 = .ok (.iconst 1, 1) := by decide +kernel
theorem dX12_isNew_49 : decode cX12_isNew 49 = .ok (.bastore, 1) := by decide +kernel
theorem dX12_isNew_50 : decode cX12_isNew 50 = .ok (.aload_n 0, 1) := by decide +kernel
theorem dX12_isNew_51 : decode cX12_isNew 51 = .ok (.getfield 130, 3) := by decide +kernel
theorem dX12_isNew_54 : decode cX12_isNew 54 = .ok (.iload_n 3, 1) := by decide +kernel
theorem dX12_isNew_55 : decode cX12_isNew 55 = .ok (.lload_n 1, 1) := by decide +kernel
theorem dX12_isNew_56 : decode cX12_isNew 56 = .ok (.lastore, 1) := by decide +kernel
theorem dX12_isNew_57 : decode cX12_isNew 57 = .ok (.iconst 1, 1) := by decide +kernel
theorem dX12_isNew_58 : decode cX12_isNew 58 = .ok (.ireturn, 1) := by decide +kernel
set_option maxHeartbeats 4000000 in
set_option maxRecDepth 100000 in
theorem qf_has {D : va_G} {ad : Nat → Nat} {cA : Nat → ClassId} {X : XT} {z : Int64} {i : Int} : MetX (wM D ad cA) yX12_has cX12_has 3 (some .boolean) 0 0 [.long (z), .int (iI (i))] X (fun r X' => X' = X ∧ ∃ u : Int, r = some (.int (iI u)) ∧ u = zB (tb z (i % 64).toNat)) := by
  refine MetX.mk (own := RX12) (by decide +kernel) rfl (nle rfl) (fun E C hQ => ?_)
  refine Wx_lv (lv' := [(0, .long (z)), (2, .int (iI (i)))]) rfl ?_
  refine x_lload_n (i := 0) C dX12_has_0 rfl rfl ?_
  refine x_iload_n (i := 2) C dX12_has_1 rfl rfl ?_
  refine x_lshr C dX12_has_2 ?_
  refine x_genL (fun l1 el1 => ?_)
  refine x_lconst C dX12_has_3 ?_
  refine x_eqL (b := 1) rfl ?_
  refine x_land C dX12_has_4 ?_
  refine x_genL (fun l2 el2 => ?_)
  refine x_lconst C dX12_has_5 ?_
  refine x_eqL (b := 1) rfl ?_
  refine x_lcmp C dX12_has_6 ?_
  refine x_topi (fun v3 rv3 ev3 => ?_)
  have cv3 := lcmp_iff rv3 ev3
  unfold inR at rv3
  refine x_if_ne (tgt := 14) C dX12_has_7 (by decide) ⟨by omega, by omega⟩ (fun h4 => ?_) (fun h4 => ?_)
  · refine x_iconst C dX12_has_14 ?_
    exact x_zret C hQ (by omega) dX12_has_15 (⟨rfl, _, rfl, zB_f (Bool.eq_false_iff.mpr (fun hh => absurd (cv3.1.mpr (by rw [el2, el1]; exact has_iff.mpr hh)) (by omega)))⟩)
  · refine x_iconst C dX12_has_10 ?_
    refine x_goto (tgt := 15) C dX12_has_11 (by decide) ?_
    exact x_zret C hQ (by omega) dX12_has_15 (⟨rfl, _, rfl, zB_t (has_iff.mp (by rw [← el1, ← el2]; exact cv3.1.mp (by omega)))⟩)
set_option maxHeartbeats 4000000 in
set_option maxRecDepth 100000 in
theorem qf_next {D : va_G} {ad : Nat → Nat} {cA : Nat → ClassId} {X : XT} {d : Int} (d0 : 0 ≤ d) (d1 : d ≤ 3) (hw : 2 ≤ X.1 0 22 ∧ X.1 0 22 ≤ 6) (hh : 2 ≤ X.1 0 23 ∧ X.1 0 23 ≤ 6) {p : Int} (p0 : 0 ≤ p) (p1 : p ≤ 35) : MetX (wM D ad cA) yX12_next cX12_next 5 (some .int) 1 22 [.ref 0, .int (iI (p)), .int (iI (d))] X (fun r X' => X' = X ∧ ∃ u : Int, r = some (.int (iI u)) ∧ u = nxtI (X.1 0 22) (X.1 0 23)  p d) := by
  refine MetX.mk (own := RX12) (by decide +kernel) rfl (nle rfl) (fun E C hQ => ?_)
  refine Wx_lv (lv' := [(0, .ref 0), (1, .int (iI (p))), (2, .int (iI (d)))]) rfl ?_
  refine x_iload_n (i := 1) C dX12_next_0 rfl rfl ?_
  refine x_aload_n (i := 0) C dX12_next_1 rfl rfl ?_
  refine x_getI C fkM_X12_278 (nlt rfl) rfl dX12_next_2 ?_
  refine x_gen (fun v1 ev1 => ?_)
  have qv1 : (2 : Int) ≤ v1 ∧ v1 ≤ 6 := by
    rw [ev1]
    exact hw
  refine x_irem C dX12_next_5 (by omega) (by omega) ⟨by omega, by omega⟩ ⟨by omega, by omega⟩ ?_
  have n6 := md_bd (p := p) (w := v1) (by omega) (by omega)
  refine x_iload_n (i := 2) C dX12_next_6 rfl rfl ?_
  refine x_iconst C dX12_next_7 ?_
  refine x_icmp_ne (tgt := 15) C dX12_next_8 (by decide) ⟨by omega, by omega⟩ ⟨by omega, by omega⟩ (fun h2 => ?_) (fun h2 => ?_)
  · refine x_iload_n (i := 2) C dX12_next_15 rfl rfl ?_
    refine x_iconst C dX12_next_16 ?_
    refine x_icmp_ne (tgt := 24) C dX12_next_17 (by decide) ⟨by omega, by omega⟩ ⟨by omega, by omega⟩ (fun h3 => ?_) (fun h3 => ?_)
    · refine x_iconst C dX12_next_24 ?_
      refine x_iadd C dX12_next_25 ?_
      refine x_gen (fun v4 ev4 => ?_)
      refine x_istore_n (i := 3) (lv' := [(3, .int (iI (v4))), (0, .ref 0), (1, .int (iI (p))), (2, .int (iI (d)))]) C dX12_next_26 rfl (nlt rfl) rfl ?_
      refine x_iload_n (i := 1) C dX12_next_27 rfl rfl ?_
      refine x_aload_n (i := 0) C dX12_next_28 rfl rfl ?_
      refine x_getI C fkM_X12_278 (nlt rfl) rfl dX12_next_29 ?_
      refine x_gen (fun v5 ev5 => ?_)
      have qv5 : (2 : Int) ≤ v5 ∧ v5 ≤ 6 := by
        rw [ev5]
        exact hw
      refine x_idiv C dX12_next_32 (by omega) (by omega) ⟨by omega, by omega⟩ ⟨by omega, by omega⟩ ?_
      have n33 := md_bd (p := p) (w := v5) (by omega) (by omega)
      refine x_iload_n (i := 2) C dX12_next_33 rfl rfl ?_
      refine x_iconst C dX12_next_34 ?_
      refine x_icmp_ne (tgt := 42) C dX12_next_35 (by decide) ⟨by omega, by omega⟩ ⟨by omega, by omega⟩ (fun h6 => ?_) (fun h6 => ?_)
      · refine x_iload_n (i := 2) C dX12_next_42 rfl rfl ?_
        refine x_if_ne (tgt := 50) C dX12_next_43 (by decide) ⟨by omega, by omega⟩ (fun h7 => ?_) (fun h7 => ?_)
        · refine x_iconst C dX12_next_50 ?_
          refine x_iadd C dX12_next_51 ?_
          refine x_gen (fun v8 ev8 => ?_)
          refine x_istore (lv' := [(4, .int (iI (v8))), (3, .int (iI (v4))), (0, .ref 0), (1, .int (iI (p))), (2, .int (iI (d)))]) C dX12_next_52 (nlt rfl) rfl ?_
          refine x_iload_n (i := 3) C dX12_next_54 rfl rfl ?_
          refine x_iconst C dX12_next_55 ?_
          refine x_aload_n (i := 0) C dX12_next_56 rfl rfl ?_
          refine x_getI C fkM_X12_278 (nlt rfl) rfl dX12_next_57 ?_
          refine x_gen (fun v9 ev9 => ?_)
          have qv9 : (2 : Int) ≤ v9 ∧ v9 ≤ 6 := by
            rw [ev9]
            exact hw
          refine x_iconst C dX12_next_60 ?_
          refine x_isub C dX12_next_61 ?_
          refine x_callS (As := [.int (iI (v4)), .int (iI (0)), .int (iI (v9 - 1))]) C (by exact (q_in (v := v4) (a := 0) (b := v9 - 1) ⟨by omega, by omega⟩ ⟨by omega, by omega⟩ ⟨by omega, by omega⟩)) ckX12_165 sm_X12_in rfl rfl (nle rfl) (by exact ⟨nle rfl, nle rfl⟩) dX12_next_62 ?_
          rintro _ Xv10 ⟨hxv10, v10, rfl, ev10⟩
          rw [hxv10]
          refine Wx_st (st' := [.int (iI (v10))]) rfl ?_
          refine x_if_eq (tgt := 95) C dX12_next_65 (by decide) ⟨by omega, by omega⟩ (fun h11 => ?_) (fun h11 => ?_)
          · refine x_iconst C dX12_next_95 ?_
            exact x_iret C hQ dX12_next_96 (⟨rfl, _, rfl, nxt_n (x := v4) (y := v8) (by subst_vars; unfold nxX; (repeat' split) <;> omega) (by subst_vars; unfold nxY; (repeat' split) <;> omega) (by omega)⟩)
          · refine x_iload C dX12_next_68 rfl ?_
            refine x_iconst C dX12_next_70 ?_
            refine x_aload_n (i := 0) C dX12_next_71 rfl rfl ?_
            refine x_getI C fkM_X12_281 (nlt rfl) rfl dX12_next_72 ?_
            refine x_gen (fun v12 ev12 => ?_)
            have qv12 : (2 : Int) ≤ v12 ∧ v12 ≤ 6 := by
              rw [ev12]
              exact hh
            refine x_iconst C dX12_next_75 ?_
            refine x_isub C dX12_next_76 ?_
            refine x_callS (As := [.int (iI (v8)), .int (iI (0)), .int (iI (v12 - 1))]) C (by exact (q_in (v := v8) (a := 0) (b := v12 - 1) ⟨by omega, by omega⟩ ⟨by omega, by omega⟩ ⟨by omega, by omega⟩)) ckX12_165 sm_X12_in rfl rfl (nle rfl) (by exact ⟨nle rfl, nle rfl⟩) dX12_next_77 ?_
            rintro _ Xv13 ⟨hxv13, v13, rfl, ev13⟩
            rw [hxv13]
            refine Wx_st (st' := [.int (iI (v13))]) rfl ?_
            refine x_if_eq (tgt := 95) C dX12_next_80 (by decide) ⟨by omega, by omega⟩ (fun h14 => ?_) (fun h14 => ?_)
            · refine x_iconst C dX12_next_95 ?_
              exact x_iret C hQ dX12_next_96 (⟨rfl, _, rfl, nxt_n (x := v4) (y := v8) (by subst_vars; unfold nxX; (repeat' split) <;> omega) (by subst_vars; unfold nxY; (repeat' split) <;> omega) (by omega)⟩)
            · refine x_iload C dX12_next_83 rfl ?_
              refine x_aload_n (i := 0) C dX12_next_85 rfl rfl ?_
              refine x_getI C fkM_X12_278 (nlt rfl) rfl dX12_next_86 ?_
              refine x_gen (fun v15 ev15 => ?_)
              have qv15 : (2 : Int) ≤ v15 ∧ v15 ≤ 6 := by
                rw [ev15]
                exact hw
              refine x_imul C dX12_next_89 ?_
              refine x_iload_n (i := 3) C dX12_next_90 rfl rfl ?_
              refine x_iadd C dX12_next_91 ?_
              refine x_goto (tgt := 96) C dX12_next_92 (by decide) ?_
              exact x_iret C hQ dX12_next_96 (⟨rfl, _, rfl, nxt_y (x := v4) (y := v8) (by subst_vars; unfold nxX; (repeat' split) <;> omega) (by subst_vars; unfold nxY; (repeat' split) <;> omega) (by omega) (by omega)⟩)
        · refine x_iconst C dX12_next_46 ?_
          refine x_goto (tgt := 51) C dX12_next_47 (by decide) ?_
          refine x_iadd C dX12_next_51 ?_
          refine x_gen (fun v16 ev16 => ?_)
          refine x_istore (lv' := [(4, .int (iI (v16))), (3, .int (iI (v4))), (0, .ref 0), (1, .int (iI (p))), (2, .int (iI (d)))]) C dX12_next_52 (nlt rfl) rfl ?_
          refine x_iload_n (i := 3) C dX12_next_54 rfl rfl ?_
          refine x_iconst C dX12_next_55 ?_
          refine x_aload_n (i := 0) C dX12_next_56 rfl rfl ?_
          refine x_getI C fkM_X12_278 (nlt rfl) rfl dX12_next_57 ?_
          refine x_gen (fun v17 ev17 => ?_)
          have qv17 : (2 : Int) ≤ v17 ∧ v17 ≤ 6 := by
            rw [ev17]
            exact hw
          refine x_iconst C dX12_next_60 ?_
          refine x_isub C dX12_next_61 ?_
          refine x_callS (As := [.int (iI (v4)), .int (iI (0)), .int (iI (v17 - 1))]) C (by exact (q_in (v := v4) (a := 0) (b := v17 - 1) ⟨by omega, by omega⟩ ⟨by omega, by omega⟩ ⟨by omega, by omega⟩)) ckX12_165 sm_X12_in rfl rfl (nle rfl) (by exact ⟨nle rfl, nle rfl⟩) dX12_next_62 ?_
          rintro _ Xv18 ⟨hxv18, v18, rfl, ev18⟩
          rw [hxv18]
          refine Wx_st (st' := [.int (iI (v18))]) rfl ?_
          refine x_if_eq (tgt := 95) C dX12_next_65 (by decide) ⟨by omega, by omega⟩ (fun h19 => ?_) (fun h19 => ?_)
          · refine x_iconst C dX12_next_95 ?_
            exact x_iret C hQ dX12_next_96 (⟨rfl, _, rfl, nxt_n (x := v4) (y := v16) (by subst_vars; unfold nxX; (repeat' split) <;> omega) (by subst_vars; unfold nxY; (repeat' split) <;> omega) (by omega)⟩)
          · refine x_iload C dX12_next_68 rfl ?_
            refine x_iconst C dX12_next_70 ?_
            refine x_aload_n (i := 0) C dX12_next_71 rfl rfl ?_
            refine x_getI C fkM_X12_281 (nlt rfl) rfl dX12_next_72 ?_
            refine x_gen (fun v20 ev20 => ?_)
            have qv20 : (2 : Int) ≤ v20 ∧ v20 ≤ 6 := by
              rw [ev20]
              exact hh
            refine x_iconst C dX12_next_75 ?_
            refine x_isub C dX12_next_76 ?_
            refine x_callS (As := [.int (iI (v16)), .int (iI (0)), .int (iI (v20 - 1))]) C (by exact (q_in (v := v16) (a := 0) (b := v20 - 1) ⟨by omega, by omega⟩ ⟨by omega, by omega⟩ ⟨by omega, by omega⟩)) ckX12_165 sm_X12_in rfl rfl (nle rfl) (by exact ⟨nle rfl, nle rfl⟩) dX12_next_77 ?_
            rintro _ Xv21 ⟨hxv21, v21, rfl, ev21⟩
            rw [hxv21]
            refine Wx_st (st' := [.int (iI (v21))]) rfl ?_
            refine x_if_eq (tgt := 95) C dX12_next_80 (by decide) ⟨by omega, by omega⟩ (fun h22 => ?_) (fun h22 => ?_)
            · refine x_iconst C dX12_next_95 ?_
              exact x_iret C hQ dX12_next_96 (⟨rfl, _, rfl, nxt_n (x := v4) (y := v16) (by subst_vars; unfold nxX; (repeat' split) <;> omega) (by subst_vars; unfold nxY; (repeat' split) <;> omega) (by omega)⟩)
            · refine x_iload C dX12_next_83 rfl ?_
              refine x_aload_n (i := 0) C dX12_next_85 rfl rfl ?_
              refine x_getI C fkM_X12_278 (nlt rfl) rfl dX12_next_86 ?_
              refine x_gen (fun v23 ev23 => ?_)
              have qv23 : (2 : Int) ≤ v23 ∧ v23 ≤ 6 := by
                rw [ev23]
                exact hw
              refine x_imul C dX12_next_89 ?_
              refine x_iload_n (i := 3) C dX12_next_90 rfl rfl ?_
              refine x_iadd C dX12_next_91 ?_
              refine x_goto (tgt := 96) C dX12_next_92 (by decide) ?_
              exact x_iret C hQ dX12_next_96 (⟨rfl, _, rfl, nxt_y (x := v4) (y := v16) (by subst_vars; unfold nxX; (repeat' split) <;> omega) (by subst_vars; unfold nxY; (repeat' split) <;> omega) (by omega) (by omega)⟩)
      · refine x_iconst C dX12_next_38 ?_
        refine x_goto (tgt := 51) C dX12_next_39 (by decide) ?_
        refine x_iadd C dX12_next_51 ?_
        refine x_gen (fun v24 ev24 => ?_)
        refine x_istore (lv' := [(4, .int (iI (v24))), (3, .int (iI (v4))), (0, .ref 0), (1, .int (iI (p))), (2, .int (iI (d)))]) C dX12_next_52 (nlt rfl) rfl ?_
        refine x_iload_n (i := 3) C dX12_next_54 rfl rfl ?_
        refine x_iconst C dX12_next_55 ?_
        refine x_aload_n (i := 0) C dX12_next_56 rfl rfl ?_
        refine x_getI C fkM_X12_278 (nlt rfl) rfl dX12_next_57 ?_
        refine x_gen (fun v25 ev25 => ?_)
        have qv25 : (2 : Int) ≤ v25 ∧ v25 ≤ 6 := by
          rw [ev25]
          exact hw
        refine x_iconst C dX12_next_60 ?_
        refine x_isub C dX12_next_61 ?_
        refine x_callS (As := [.int (iI (v4)), .int (iI (0)), .int (iI (v25 - 1))]) C (by exact (q_in (v := v4) (a := 0) (b := v25 - 1) ⟨by omega, by omega⟩ ⟨by omega, by omega⟩ ⟨by omega, by omega⟩)) ckX12_165 sm_X12_in rfl rfl (nle rfl) (by exact ⟨nle rfl, nle rfl⟩) dX12_next_62 ?_
        rintro _ Xv26 ⟨hxv26, v26, rfl, ev26⟩
        rw [hxv26]
        refine Wx_st (st' := [.int (iI (v26))]) rfl ?_
        refine x_if_eq (tgt := 95) C dX12_next_65 (by decide) ⟨by omega, by omega⟩ (fun h27 => ?_) (fun h27 => ?_)
        · refine x_iconst C dX12_next_95 ?_
          exact x_iret C hQ dX12_next_96 (⟨rfl, _, rfl, nxt_n (x := v4) (y := v24) (by subst_vars; unfold nxX; (repeat' split) <;> omega) (by subst_vars; unfold nxY; (repeat' split) <;> omega) (by omega)⟩)
        · refine x_iload C dX12_next_68 rfl ?_
          refine x_iconst C dX12_next_70 ?_
          refine x_aload_n (i := 0) C dX12_next_71 rfl rfl ?_
          refine x_getI C fkM_X12_281 (nlt rfl) rfl dX12_next_72 ?_
          refine x_gen (fun v28 ev28 => ?_)
          have qv28 : (2 : Int) ≤ v28 ∧ v28 ≤ 6 := by
            rw [ev28]
            exact hh
          refine x_iconst C dX12_next_75 ?_
          refine x_isub C dX12_next_76 ?_
          refine x_callS (As := [.int (iI (v24)), .int (iI (0)), .int (iI (v28 - 1))]) C (by exact (q_in (v := v24) (a := 0) (b := v28 - 1) ⟨by omega, by omega⟩ ⟨by omega, by omega⟩ ⟨by omega, by omega⟩)) ckX12_165 sm_X12_in rfl rfl (nle rfl) (by exact ⟨nle rfl, nle rfl⟩) dX12_next_77 ?_
          rintro _ Xv29 ⟨hxv29, v29, rfl, ev29⟩
          rw [hxv29]
          refine Wx_st (st' := [.int (iI (v29))]) rfl ?_
          refine x_if_eq (tgt := 95) C dX12_next_80 (by decide) ⟨by omega, by omega⟩ (fun h30 => ?_) (fun h30 => ?_)
          · refine x_iconst C dX12_next_95 ?_
            exact x_iret C hQ dX12_next_96 (⟨rfl, _, rfl, nxt_n (x := v4) (y := v24) (by subst_vars; unfold nxX; (repeat' split) <;> omega) (by subst_vars; unfold nxY; (repeat' split) <;> omega) (by omega)⟩)
          · refine x_iload C dX12_next_83 rfl ?_
            refine x_aload_n (i := 0) C dX12_next_85 rfl rfl ?_
            refine x_getI C fkM_X12_278 (nlt rfl) rfl dX12_next_86 ?_
            refine x_gen (fun v31 ev31 => ?_)
            have qv31 : (2 : Int) ≤ v31 ∧ v31 ≤ 6 := by
              rw [ev31]
              exact hw
            refine x_imul C dX12_next_89 ?_
            refine x_iload_n (i := 3) C dX12_next_90 rfl rfl ?_
            refine x_iadd C dX12_next_91 ?_
            refine x_goto (tgt := 96) C dX12_next_92 (by decide) ?_
            exact x_iret C hQ dX12_next_96 (⟨rfl, _, rfl, nxt_y (x := v4) (y := v24) (by subst_vars; unfold nxX; (repeat' split) <;> omega) (by subst_vars; unfold nxY; (repeat' split) <;> omega) (by omega) (by omega)⟩)
    · refine x_iconst C dX12_next_20 ?_
      refine x_goto (tgt := 25) C dX12_next_21 (by decide) ?_
      refine x_iadd C dX12_next_25 ?_
      refine x_gen (fun v32 ev32 => ?_)
      refine x_istore_n (i := 3) (lv' := [(3, .int (iI (v32))), (0, .ref 0), (1, .int (iI (p))), (2, .int (iI (d)))]) C dX12_next_26 rfl (nlt rfl) rfl ?_
      refine x_iload_n (i := 1) C dX12_next_27 rfl rfl ?_
      refine x_aload_n (i := 0) C dX12_next_28 rfl rfl ?_
      refine x_getI C fkM_X12_278 (nlt rfl) rfl dX12_next_29 ?_
      refine x_gen (fun v33 ev33 => ?_)
      have qv33 : (2 : Int) ≤ v33 ∧ v33 ≤ 6 := by
        rw [ev33]
        exact hw
      refine x_idiv C dX12_next_32 (by omega) (by omega) ⟨by omega, by omega⟩ ⟨by omega, by omega⟩ ?_
      have n33 := md_bd (p := p) (w := v33) (by omega) (by omega)
      refine x_iload_n (i := 2) C dX12_next_33 rfl rfl ?_
      refine x_iconst C dX12_next_34 ?_
      refine x_icmp_ne (tgt := 42) C dX12_next_35 (by decide) ⟨by omega, by omega⟩ ⟨by omega, by omega⟩ (fun h34 => ?_) (fun h34 => ?_)
      · refine x_iload_n (i := 2) C dX12_next_42 rfl rfl ?_
        refine x_if_ne (tgt := 50) C dX12_next_43 (by decide) ⟨by omega, by omega⟩ (fun h35 => ?_) (fun h35 => ?_)
        · refine x_iconst C dX12_next_50 ?_
          refine x_iadd C dX12_next_51 ?_
          refine x_gen (fun v36 ev36 => ?_)
          refine x_istore (lv' := [(4, .int (iI (v36))), (3, .int (iI (v32))), (0, .ref 0), (1, .int (iI (p))), (2, .int (iI (d)))]) C dX12_next_52 (nlt rfl) rfl ?_
          refine x_iload_n (i := 3) C dX12_next_54 rfl rfl ?_
          refine x_iconst C dX12_next_55 ?_
          refine x_aload_n (i := 0) C dX12_next_56 rfl rfl ?_
          refine x_getI C fkM_X12_278 (nlt rfl) rfl dX12_next_57 ?_
          refine x_gen (fun v37 ev37 => ?_)
          have qv37 : (2 : Int) ≤ v37 ∧ v37 ≤ 6 := by
            rw [ev37]
            exact hw
          refine x_iconst C dX12_next_60 ?_
          refine x_isub C dX12_next_61 ?_
          refine x_callS (As := [.int (iI (v32)), .int (iI (0)), .int (iI (v37 - 1))]) C (by exact (q_in (v := v32) (a := 0) (b := v37 - 1) ⟨by omega, by omega⟩ ⟨by omega, by omega⟩ ⟨by omega, by omega⟩)) ckX12_165 sm_X12_in rfl rfl (nle rfl) (by exact ⟨nle rfl, nle rfl⟩) dX12_next_62 ?_
          rintro _ Xv38 ⟨hxv38, v38, rfl, ev38⟩
          rw [hxv38]
          refine Wx_st (st' := [.int (iI (v38))]) rfl ?_
          refine x_if_eq (tgt := 95) C dX12_next_65 (by decide) ⟨by omega, by omega⟩ (fun h39 => ?_) (fun h39 => ?_)
          · refine x_iconst C dX12_next_95 ?_
            exact x_iret C hQ dX12_next_96 (⟨rfl, _, rfl, nxt_n (x := v32) (y := v36) (by subst_vars; unfold nxX; (repeat' split) <;> omega) (by subst_vars; unfold nxY; (repeat' split) <;> omega) (by omega)⟩)
          · refine x_iload C dX12_next_68 rfl ?_
            refine x_iconst C dX12_next_70 ?_
            refine x_aload_n (i := 0) C dX12_next_71 rfl rfl ?_
            refine x_getI C fkM_X12_281 (nlt rfl) rfl dX12_next_72 ?_
            refine x_gen (fun v40 ev40 => ?_)
            have qv40 : (2 : Int) ≤ v40 ∧ v40 ≤ 6 := by
              rw [ev40]
              exact hh
            refine x_iconst C dX12_next_75 ?_
            refine x_isub C dX12_next_76 ?_
            refine x_callS (As := [.int (iI (v36)), .int (iI (0)), .int (iI (v40 - 1))]) C (by exact (q_in (v := v36) (a := 0) (b := v40 - 1) ⟨by omega, by omega⟩ ⟨by omega, by omega⟩ ⟨by omega, by omega⟩)) ckX12_165 sm_X12_in rfl rfl (nle rfl) (by exact ⟨nle rfl, nle rfl⟩) dX12_next_77 ?_
            rintro _ Xv41 ⟨hxv41, v41, rfl, ev41⟩
            rw [hxv41]
            refine Wx_st (st' := [.int (iI (v41))]) rfl ?_
            refine x_if_eq (tgt := 95) C dX12_next_80 (by decide) ⟨by omega, by omega⟩ (fun h42 => ?_) (fun h42 => ?_)
            · refine x_iconst C dX12_next_95 ?_
              exact x_iret C hQ dX12_next_96 (⟨rfl, _, rfl, nxt_n (x := v32) (y := v36) (by subst_vars; unfold nxX; (repeat' split) <;> omega) (by subst_vars; unfold nxY; (repeat' split) <;> omega) (by omega)⟩)
            · refine x_iload C dX12_next_83 rfl ?_
              refine x_aload_n (i := 0) C dX12_next_85 rfl rfl ?_
              refine x_getI C fkM_X12_278 (nlt rfl) rfl dX12_next_86 ?_
              refine x_gen (fun v43 ev43 => ?_)
              have qv43 : (2 : Int) ≤ v43 ∧ v43 ≤ 6 := by
                rw [ev43]
                exact hw
              refine x_imul C dX12_next_89 ?_
              refine x_iload_n (i := 3) C dX12_next_90 rfl rfl ?_
              refine x_iadd C dX12_next_91 ?_
              refine x_goto (tgt := 96) C dX12_next_92 (by decide) ?_
              exact x_iret C hQ dX12_next_96 (⟨rfl, _, rfl, nxt_y (x := v32) (y := v36) (by subst_vars; unfold nxX; (repeat' split) <;> omega) (by subst_vars; unfold nxY; (repeat' split) <;> omega) (by omega) (by omega)⟩)
        · refine x_iconst C dX12_next_46 ?_
          refine x_goto (tgt := 51) C dX12_next_47 (by decide) ?_
          refine x_iadd C dX12_next_51 ?_
          refine x_gen (fun v44 ev44 => ?_)
          refine x_istore (lv' := [(4, .int (iI (v44))), (3, .int (iI (v32))), (0, .ref 0), (1, .int (iI (p))), (2, .int (iI (d)))]) C dX12_next_52 (nlt rfl) rfl ?_
          refine x_iload_n (i := 3) C dX12_next_54 rfl rfl ?_
          refine x_iconst C dX12_next_55 ?_
          refine x_aload_n (i := 0) C dX12_next_56 rfl rfl ?_
          refine x_getI C fkM_X12_278 (nlt rfl) rfl dX12_next_57 ?_
          refine x_gen (fun v45 ev45 => ?_)
          have qv45 : (2 : Int) ≤ v45 ∧ v45 ≤ 6 := by
            rw [ev45]
            exact hw
          refine x_iconst C dX12_next_60 ?_
          refine x_isub C dX12_next_61 ?_
          refine x_callS (As := [.int (iI (v32)), .int (iI (0)), .int (iI (v45 - 1))]) C (by exact (q_in (v := v32) (a := 0) (b := v45 - 1) ⟨by omega, by omega⟩ ⟨by omega, by omega⟩ ⟨by omega, by omega⟩)) ckX12_165 sm_X12_in rfl rfl (nle rfl) (by exact ⟨nle rfl, nle rfl⟩) dX12_next_62 ?_
          rintro _ Xv46 ⟨hxv46, v46, rfl, ev46⟩
          rw [hxv46]
          refine Wx_st (st' := [.int (iI (v46))]) rfl ?_
          refine x_if_eq (tgt := 95) C dX12_next_65 (by decide) ⟨by omega, by omega⟩ (fun h47 => ?_) (fun h47 => ?_)
          · refine x_iconst C dX12_next_95 ?_
            exact x_iret C hQ dX12_next_96 (⟨rfl, _, rfl, nxt_n (x := v32) (y := v44) (by subst_vars; unfold nxX; (repeat' split) <;> omega) (by subst_vars; unfold nxY; (repeat' split) <;> omega) (by omega)⟩)
          · refine x_iload C dX12_next_68 rfl ?_
            refine x_iconst C dX12_next_70 ?_
            refine x_aload_n (i := 0) C dX12_next_71 rfl rfl ?_
            refine x_getI C fkM_X12_281 (nlt rfl) rfl dX12_next_72 ?_
            refine x_gen (fun v48 ev48 => ?_)
            have qv48 : (2 : Int) ≤ v48 ∧ v48 ≤ 6 := by
              rw [ev48]
              exact hh
            refine x_iconst C dX12_next_75 ?_
            refine x_isub C dX12_next_76 ?_
            refine x_callS (As := [.int (iI (v44)), .int (iI (0)), .int (iI (v48 - 1))]) C (by exact (q_in (v := v44) (a := 0) (b := v48 - 1) ⟨by omega, by omega⟩ ⟨by omega, by omega⟩ ⟨by omega, by omega⟩)) ckX12_165 sm_X12_in rfl rfl (nle rfl) (by exact ⟨nle rfl, nle rfl⟩) dX12_next_77 ?_
            rintro _ Xv49 ⟨hxv49, v49, rfl, ev49⟩
            rw [hxv49]
            refine Wx_st (st' := [.int (iI (v49))]) rfl ?_
            refine x_if_eq (tgt := 95) C dX12_next_80 (by decide) ⟨by omega, by omega⟩ (fun h50 => ?_) (fun h50 => ?_)
            · refine x_iconst C dX12_next_95 ?_
              exact x_iret C hQ dX12_next_96 (⟨rfl, _, rfl, nxt_n (x := v32) (y := v44) (by subst_vars; unfold nxX; (repeat' split) <;> omega) (by subst_vars; unfold nxY; (repeat' split) <;> omega) (by omega)⟩)
            · refine x_iload C dX12_next_83 rfl ?_
              refine x_aload_n (i := 0) C dX12_next_85 rfl rfl ?_
              refine x_getI C fkM_X12_278 (nlt rfl) rfl dX12_next_86 ?_
              refine x_gen (fun v51 ev51 => ?_)
              have qv51 : (2 : Int) ≤ v51 ∧ v51 ≤ 6 := by
                rw [ev51]
                exact hw
              refine x_imul C dX12_next_89 ?_
              refine x_iload_n (i := 3) C dX12_next_90 rfl rfl ?_
              refine x_iadd C dX12_next_91 ?_
              refine x_goto (tgt := 96) C dX12_next_92 (by decide) ?_
              exact x_iret C hQ dX12_next_96 (⟨rfl, _, rfl, nxt_y (x := v32) (y := v44) (by subst_vars; unfold nxX; (repeat' split) <;> omega) (by subst_vars; unfold nxY; (repeat' split) <;> omega) (by omega) (by omega)⟩)
      · refine x_iconst C dX12_next_38 ?_
        refine x_goto (tgt := 51) C dX12_next_39 (by decide) ?_
        refine x_iadd C dX12_next_51 ?_
        refine x_gen (fun v52 ev52 => ?_)
        refine x_istore (lv' := [(4, .int (iI (v52))), (3, .int (iI (v32))), (0, .ref 0), (1, .int (iI (p))), (2, .int (iI (d)))]) C dX12_next_52 (nlt rfl) rfl ?_
        refine x_iload_n (i := 3) C dX12_next_54 rfl rfl ?_
        refine x_iconst C dX12_next_55 ?_
        refine x_aload_n (i := 0) C dX12_next_56 rfl rfl ?_
        refine x_getI C fkM_X12_278 (nlt rfl) rfl dX12_next_57 ?_
        refine x_gen (fun v53 ev53 => ?_)
        have qv53 : (2 : Int) ≤ v53 ∧ v53 ≤ 6 := by
          rw [ev53]
          exact hw
        refine x_iconst C dX12_next_60 ?_
        refine x_isub C dX12_next_61 ?_
        refine x_callS (As := [.int (iI (v32)), .int (iI (0)), .int (iI (v53 - 1))]) C (by exact (q_in (v := v32) (a := 0) (b := v53 - 1) ⟨by omega, by omega⟩ ⟨by omega, by omega⟩ ⟨by omega, by omega⟩)) ckX12_165 sm_X12_in rfl rfl (nle rfl) (by exact ⟨nle rfl, nle rfl⟩) dX12_next_62 ?_
        rintro _ Xv54 ⟨hxv54, v54, rfl, ev54⟩
        rw [hxv54]
        refine Wx_st (st' := [.int (iI (v54))]) rfl ?_
        refine x_if_eq (tgt := 95) C dX12_next_65 (by decide) ⟨by omega, by omega⟩ (fun h55 => ?_) (fun h55 => ?_)
        · refine x_iconst C dX12_next_95 ?_
          exact x_iret C hQ dX12_next_96 (⟨rfl, _, rfl, nxt_n (x := v32) (y := v52) (by subst_vars; unfold nxX; (repeat' split) <;> omega) (by subst_vars; unfold nxY; (repeat' split) <;> omega) (by omega)⟩)
        · refine x_iload C dX12_next_68 rfl ?_
          refine x_iconst C dX12_next_70 ?_
          refine x_aload_n (i := 0) C dX12_next_71 rfl rfl ?_
          refine x_getI C fkM_X12_281 (nlt rfl) rfl dX12_next_72 ?_
          refine x_gen (fun v56 ev56 => ?_)
          have qv56 : (2 : Int) ≤ v56 ∧ v56 ≤ 6 := by
            rw [ev56]
            exact hh
          refine x_iconst C dX12_next_75 ?_
          refine x_isub C dX12_next_76 ?_
          refine x_callS (As := [.int (iI (v52)), .int (iI (0)), .int (iI (v56 - 1))]) C (by exact (q_in (v := v52) (a := 0) (b := v56 - 1) ⟨by omega, by omega⟩ ⟨by omega, by omega⟩ ⟨by omega, by omega⟩)) ckX12_165 sm_X12_in rfl rfl (nle rfl) (by exact ⟨nle rfl, nle rfl⟩) dX12_next_77 ?_
          rintro _ Xv57 ⟨hxv57, v57, rfl, ev57⟩
          rw [hxv57]
          refine Wx_st (st' := [.int (iI (v57))]) rfl ?_
          refine x_if_eq (tgt := 95) C dX12_next_80 (by decide) ⟨by omega, by omega⟩ (fun h58 => ?_) (fun h58 => ?_)
          · refine x_iconst C dX12_next_95 ?_
            exact x_iret C hQ dX12_next_96 (⟨rfl, _, rfl, nxt_n (x := v32) (y := v52) (by subst_vars; unfold nxX; (repeat' split) <;> omega) (by subst_vars; unfold nxY; (repeat' split) <;> omega) (by omega)⟩)
          · refine x_iload C dX12_next_83 rfl ?_
            refine x_aload_n (i := 0) C dX12_next_85 rfl rfl ?_
            refine x_getI C fkM_X12_278 (nlt rfl) rfl dX12_next_86 ?_
            refine x_gen (fun v59 ev59 => ?_)
            have qv59 : (2 : Int) ≤ v59 ∧ v59 ≤ 6 := by
              rw [ev59]
              exact hw
            refine x_imul C dX12_next_89 ?_
            refine x_iload_n (i := 3) C dX12_next_90 rfl rfl ?_
            refine x_iadd C dX12_next_91 ?_
            refine x_goto (tgt := 96) C dX12_next_92 (by decide) ?_
            exact x_iret C hQ dX12_next_96 (⟨rfl, _, rfl, nxt_y (x := v32) (y := v52) (by subst_vars; unfold nxX; (repeat' split) <;> omega) (by subst_vars; unfold nxY; (repeat' split) <;> omega) (by omega) (by omega)⟩)
  · refine x_iconst C dX12_next_11 ?_
    refine x_goto (tgt := 25) C dX12_next_12 (by decide) ?_
    refine x_iadd C dX12_next_25 ?_
    refine x_gen (fun v60 ev60 => ?_)
    refine x_istore_n (i := 3) (lv' := [(3, .int (iI (v60))), (0, .ref 0), (1, .int (iI (p))), (2, .int (iI (d)))]) C dX12_next_26 rfl (nlt rfl) rfl ?_
    refine x_iload_n (i := 1) C dX12_next_27 rfl rfl ?_
    refine x_aload_n (i := 0) C dX12_next_28 rfl rfl ?_
    refine x_getI C fkM_X12_278 (nlt rfl) rfl dX12_next_29 ?_
    refine x_gen (fun v61 ev61 => ?_)
    have qv61 : (2 : Int) ≤ v61 ∧ v61 ≤ 6 := by
      rw [ev61]
      exact hw
    refine x_idiv C dX12_next_32 (by omega) (by omega) ⟨by omega, by omega⟩ ⟨by omega, by omega⟩ ?_
    have n33 := md_bd (p := p) (w := v61) (by omega) (by omega)
    refine x_iload_n (i := 2) C dX12_next_33 rfl rfl ?_
    refine x_iconst C dX12_next_34 ?_
    refine x_icmp_ne (tgt := 42) C dX12_next_35 (by decide) ⟨by omega, by omega⟩ ⟨by omega, by omega⟩ (fun h62 => ?_) (fun h62 => ?_)
    · refine x_iload_n (i := 2) C dX12_next_42 rfl rfl ?_
      refine x_if_ne (tgt := 50) C dX12_next_43 (by decide) ⟨by omega, by omega⟩ (fun h63 => ?_) (fun h63 => ?_)
      · refine x_iconst C dX12_next_50 ?_
        refine x_iadd C dX12_next_51 ?_
        refine x_gen (fun v64 ev64 => ?_)
        refine x_istore (lv' := [(4, .int (iI (v64))), (3, .int (iI (v60))), (0, .ref 0), (1, .int (iI (p))), (2, .int (iI (d)))]) C dX12_next_52 (nlt rfl) rfl ?_
        refine x_iload_n (i := 3) C dX12_next_54 rfl rfl ?_
        refine x_iconst C dX12_next_55 ?_
        refine x_aload_n (i := 0) C dX12_next_56 rfl rfl ?_
        refine x_getI C fkM_X12_278 (nlt rfl) rfl dX12_next_57 ?_
        refine x_gen (fun v65 ev65 => ?_)
        have qv65 : (2 : Int) ≤ v65 ∧ v65 ≤ 6 := by
          rw [ev65]
          exact hw
        refine x_iconst C dX12_next_60 ?_
        refine x_isub C dX12_next_61 ?_
        refine x_callS (As := [.int (iI (v60)), .int (iI (0)), .int (iI (v65 - 1))]) C (by exact (q_in (v := v60) (a := 0) (b := v65 - 1) ⟨by omega, by omega⟩ ⟨by omega, by omega⟩ ⟨by omega, by omega⟩)) ckX12_165 sm_X12_in rfl rfl (nle rfl) (by exact ⟨nle rfl, nle rfl⟩) dX12_next_62 ?_
        rintro _ Xv66 ⟨hxv66, v66, rfl, ev66⟩
        rw [hxv66]
        refine Wx_st (st' := [.int (iI (v66))]) rfl ?_
        refine x_if_eq (tgt := 95) C dX12_next_65 (by decide) ⟨by omega, by omega⟩ (fun h67 => ?_) (fun h67 => ?_)
        · refine x_iconst C dX12_next_95 ?_
          exact x_iret C hQ dX12_next_96 (⟨rfl, _, rfl, nxt_n (x := v60) (y := v64) (by subst_vars; unfold nxX; (repeat' split) <;> omega) (by subst_vars; unfold nxY; (repeat' split) <;> omega) (by omega)⟩)
        · refine x_iload C dX12_next_68 rfl ?_
          refine x_iconst C dX12_next_70 ?_
          refine x_aload_n (i := 0) C dX12_next_71 rfl rfl ?_
          refine x_getI C fkM_X12_281 (nlt rfl) rfl dX12_next_72 ?_
          refine x_gen (fun v68 ev68 => ?_)
          have qv68 : (2 : Int) ≤ v68 ∧ v68 ≤ 6 := by
            rw [ev68]
            exact hh
          refine x_iconst C dX12_next_75 ?_
          refine x_isub C dX12_next_76 ?_
          refine x_callS (As := [.int (iI (v64)), .int (iI (0)), .int (iI (v68 - 1))]) C (by exact (q_in (v := v64) (a := 0) (b := v68 - 1) ⟨by omega, by omega⟩ ⟨by omega, by omega⟩ ⟨by omega, by omega⟩)) ckX12_165 sm_X12_in rfl rfl (nle rfl) (by exact ⟨nle rfl, nle rfl⟩) dX12_next_77 ?_
          rintro _ Xv69 ⟨hxv69, v69, rfl, ev69⟩
          rw [hxv69]
          refine Wx_st (st' := [.int (iI (v69))]) rfl ?_
          refine x_if_eq (tgt := 95) C dX12_next_80 (by decide) ⟨by omega, by omega⟩ (fun h70 => ?_) (fun h70 => ?_)
          · refine x_iconst C dX12_next_95 ?_
            exact x_iret C hQ dX12_next_96 (⟨rfl, _, rfl, nxt_n (x := v60) (y := v64) (by subst_vars; unfold nxX; (repeat' split) <;> omega) (by subst_vars; unfold nxY; (repeat' split) <;> omega) (by omega)⟩)
          · refine x_iload C dX12_next_83 rfl ?_
            refine x_aload_n (i := 0) C dX12_next_85 rfl rfl ?_
            refine x_getI C fkM_X12_278 (nlt rfl) rfl dX12_next_86 ?_
            refine x_gen (fun v71 ev71 => ?_)
            have qv71 : (2 : Int) ≤ v71 ∧ v71 ≤ 6 := by
              rw [ev71]
              exact hw
            refine x_imul C dX12_next_89 ?_
            refine x_iload_n (i := 3) C dX12_next_90 rfl rfl ?_
            refine x_iadd C dX12_next_91 ?_
            refine x_goto (tgt := 96) C dX12_next_92 (by decide) ?_
            exact x_iret C hQ dX12_next_96 (⟨rfl, _, rfl, nxt_y (x := v60) (y := v64) (by subst_vars; unfold nxX; (repeat' split) <;> omega) (by subst_vars; unfold nxY; (repeat' split) <;> omega) (by omega) (by omega)⟩)
      · refine x_iconst C dX12_next_46 ?_
        refine x_goto (tgt := 51) C dX12_next_47 (by decide) ?_
        refine x_iadd C dX12_next_51 ?_
        refine x_gen (fun v72 ev72 => ?_)
        refine x_istore (lv' := [(4, .int (iI (v72))), (3, .int (iI (v60))), (0, .ref 0), (1, .int (iI (p))), (2, .int (iI (d)))]) C dX12_next_52 (nlt rfl) rfl ?_
        refine x_iload_n (i := 3) C dX12_next_54 rfl rfl ?_
        refine x_iconst C dX12_next_55 ?_
        refine x_aload_n (i := 0) C dX12_next_56 rfl rfl ?_
        refine x_getI C fkM_X12_278 (nlt rfl) rfl dX12_next_57 ?_
        refine x_gen (fun v73 ev73 => ?_)
        have qv73 : (2 : Int) ≤ v73 ∧ v73 ≤ 6 := by
          rw [ev73]
          exact hw
        refine x_iconst C dX12_next_60 ?_
        refine x_isub C dX12_next_61 ?_
        refine x_callS (As := [.int (iI (v60)), .int (iI (0)), .int (iI (v73 - 1))]) C (by exact (q_in (v := v60) (a := 0) (b := v73 - 1) ⟨by omega, by omega⟩ ⟨by omega, by omega⟩ ⟨by omega, by omega⟩)) ckX12_165 sm_X12_in rfl rfl (nle rfl) (by exact ⟨nle rfl, nle rfl⟩) dX12_next_62 ?_
        rintro _ Xv74 ⟨hxv74, v74, rfl, ev74⟩
        rw [hxv74]
        refine Wx_st (st' := [.int (iI (v74))]) rfl ?_
        refine x_if_eq (tgt := 95) C dX12_next_65 (by decide) ⟨by omega, by omega⟩ (fun h75 => ?_) (fun h75 => ?_)
        · refine x_iconst C dX12_next_95 ?_
          exact x_iret C hQ dX12_next_96 (⟨rfl, _, rfl, nxt_n (x := v60) (y := v72) (by subst_vars; unfold nxX; (repeat' split) <;> omega) (by subst_vars; unfold nxY; (repeat' split) <;> omega) (by omega)⟩)
        · refine x_iload C dX12_next_68 rfl ?_
          refine x_iconst C dX12_next_70 ?_
          refine x_aload_n (i := 0) C dX12_next_71 rfl rfl ?_
          refine x_getI C fkM_X12_281 (nlt rfl) rfl dX12_next_72 ?_
          refine x_gen (fun v76 ev76 => ?_)
          have qv76 : (2 : Int) ≤ v76 ∧ v76 ≤ 6 := by
            rw [ev76]
            exact hh
          refine x_iconst C dX12_next_75 ?_
          refine x_isub C dX12_next_76 ?_
          refine x_callS (As := [.int (iI (v72)), .int (iI (0)), .int (iI (v76 - 1))]) C (by exact (q_in (v := v72) (a := 0) (b := v76 - 1) ⟨by omega, by omega⟩ ⟨by omega, by omega⟩ ⟨by omega, by omega⟩)) ckX12_165 sm_X12_in rfl rfl (nle rfl) (by exact ⟨nle rfl, nle rfl⟩) dX12_next_77 ?_
          rintro _ Xv77 ⟨hxv77, v77, rfl, ev77⟩
          rw [hxv77]
          refine Wx_st (st' := [.int (iI (v77))]) rfl ?_
          refine x_if_eq (tgt := 95) C dX12_next_80 (by decide) ⟨by omega, by omega⟩ (fun h78 => ?_) (fun h78 => ?_)
          · refine x_iconst C dX12_next_95 ?_
            exact x_iret C hQ dX12_next_96 (⟨rfl, _, rfl, nxt_n (x := v60) (y := v72) (by subst_vars; unfold nxX; (repeat' split) <;> omega) (by subst_vars; unfold nxY; (repeat' split) <;> omega) (by omega)⟩)
          · refine x_iload C dX12_next_83 rfl ?_
            refine x_aload_n (i := 0) C dX12_next_85 rfl rfl ?_
            refine x_getI C fkM_X12_278 (nlt rfl) rfl dX12_next_86 ?_
            refine x_gen (fun v79 ev79 => ?_)
            have qv79 : (2 : Int) ≤ v79 ∧ v79 ≤ 6 := by
              rw [ev79]
              exact hw
            refine x_imul C dX12_next_89 ?_
            refine x_iload_n (i := 3) C dX12_next_90 rfl rfl ?_
            refine x_iadd C dX12_next_91 ?_
            refine x_goto (tgt := 96) C dX12_next_92 (by decide) ?_
            exact x_iret C hQ dX12_next_96 (⟨rfl, _, rfl, nxt_y (x := v60) (y := v72) (by subst_vars; unfold nxX; (repeat' split) <;> omega) (by subst_vars; unfold nxY; (repeat' split) <;> omega) (by omega) (by omega)⟩)
    · refine x_iconst C dX12_next_38 ?_
      refine x_goto (tgt := 51) C dX12_next_39 (by decide) ?_
      refine x_iadd C dX12_next_51 ?_
      refine x_gen (fun v80 ev80 => ?_)
      refine x_istore (lv' := [(4, .int (iI (v80))), (3, .int (iI (v60))), (0, .ref 0), (1, .int (iI (p))), (2, .int (iI (d)))]) C dX12_next_52 (nlt rfl) rfl ?_
      refine x_iload_n (i := 3) C dX12_next_54 rfl rfl ?_
      refine x_iconst C dX12_next_55 ?_
      refine x_aload_n (i := 0) C dX12_next_56 rfl rfl ?_
      refine x_getI C fkM_X12_278 (nlt rfl) rfl dX12_next_57 ?_
      refine x_gen (fun v81 ev81 => ?_)
      have qv81 : (2 : Int) ≤ v81 ∧ v81 ≤ 6 := by
        rw [ev81]
        exact hw
      refine x_iconst C dX12_next_60 ?_
      refine x_isub C dX12_next_61 ?_
      refine x_callS (As := [.int (iI (v60)), .int (iI (0)), .int (iI (v81 - 1))]) C (by exact (q_in (v := v60) (a := 0) (b := v81 - 1) ⟨by omega, by omega⟩ ⟨by omega, by omega⟩ ⟨by omega, by omega⟩)) ckX12_165 sm_X12_in rfl rfl (nle rfl) (by exact ⟨nle rfl, nle rfl⟩) dX12_next_62 ?_
      rintro _ Xv82 ⟨hxv82, v82, rfl, ev82⟩
      rw [hxv82]
      refine Wx_st (st' := [.int (iI (v82))]) rfl ?_
      refine x_if_eq (tgt := 95) C dX12_next_65 (by decide) ⟨by omega, by omega⟩ (fun h83 => ?_) (fun h83 => ?_)
      · refine x_iconst C dX12_next_95 ?_
        exact x_iret C hQ dX12_next_96 (⟨rfl, _, rfl, nxt_n (x := v60) (y := v80) (by subst_vars; unfold nxX; (repeat' split) <;> omega) (by subst_vars; unfold nxY; (repeat' split) <;> omega) (by omega)⟩)
      · refine x_iload C dX12_next_68 rfl ?_
        refine x_iconst C dX12_next_70 ?_
        refine x_aload_n (i := 0) C dX12_next_71 rfl rfl ?_
        refine x_getI C fkM_X12_281 (nlt rfl) rfl dX12_next_72 ?_
        refine x_gen (fun v84 ev84 => ?_)
        have qv84 : (2 : Int) ≤ v84 ∧ v84 ≤ 6 := by
          rw [ev84]
          exact hh
        refine x_iconst C dX12_next_75 ?_
        refine x_isub C dX12_next_76 ?_
        refine x_callS (As := [.int (iI (v80)), .int (iI (0)), .int (iI (v84 - 1))]) C (by exact (q_in (v := v80) (a := 0) (b := v84 - 1) ⟨by omega, by omega⟩ ⟨by omega, by omega⟩ ⟨by omega, by omega⟩)) ckX12_165 sm_X12_in rfl rfl (nle rfl) (by exact ⟨nle rfl, nle rfl⟩) dX12_next_77 ?_
        rintro _ Xv85 ⟨hxv85, v85, rfl, ev85⟩
        rw [hxv85]
        refine Wx_st (st' := [.int (iI (v85))]) rfl ?_
        refine x_if_eq (tgt := 95) C dX12_next_80 (by decide) ⟨by omega, by omega⟩ (fun h86 => ?_) (fun h86 => ?_)
        · refine x_iconst C dX12_next_95 ?_
          exact x_iret C hQ dX12_next_96 (⟨rfl, _, rfl, nxt_n (x := v60) (y := v80) (by subst_vars; unfold nxX; (repeat' split) <;> omega) (by subst_vars; unfold nxY; (repeat' split) <;> omega) (by omega)⟩)
        · refine x_iload C dX12_next_83 rfl ?_
          refine x_aload_n (i := 0) C dX12_next_85 rfl rfl ?_
          refine x_getI C fkM_X12_278 (nlt rfl) rfl dX12_next_86 ?_
          refine x_gen (fun v87 ev87 => ?_)
          have qv87 : (2 : Int) ≤ v87 ∧ v87 ≤ 6 := by
            rw [ev87]
            exact hw
          refine x_imul C dX12_next_89 ?_
          refine x_iload_n (i := 3) C dX12_next_90 rfl rfl ?_
          refine x_iadd C dX12_next_91 ?_
          refine x_goto (tgt := 96) C dX12_next_92 (by decide) ?_
          exact x_iret C hQ dX12_next_96 (⟨rfl, _, rfl, nxt_y (x := v60) (y := v80) (by subst_vars; unfold nxX; (repeat' split) <;> omega) (by subst_vars; unfold nxY; (repeat' split) <;> omega) (by omega) (by omega)⟩)
def stpI (X : XT) (p d : Int) : Int := if nxtI (X.1 0 22) (X.1 0 23)  p d = -1 then -1 else if tb (X.2.1 0 26 ||| X.2.1 0 32) (nxtI (X.1 0 22) (X.1 0 23)  p d % 64).toNat = true then -1 else nxtI (X.1 0 22) (X.1 0 23)  p d
theorem stp_c {X : XT} {p d : Int} (h : stpI X p d ≠ -1) : stpI X p d = nxtI (X.1 0 22) (X.1 0 23)  p d ∧ nxtI (X.1 0 22) (X.1 0 23)  p d ≠ -1 := by
  unfold stpI at h ⊢
  split
  · rename_i c
    rw [if_pos c] at h
    exact absurd rfl h
  · rename_i c
    rw [if_neg c] at h
    split
    · rename_i c2
      rw [if_pos c2] at h
      exact absurd rfl h
    · exact ⟨rfl, c⟩
theorem stp_bd {X : XT} {p d : Int} (hw : 2 ≤ X.1 0 22 ∧ X.1 0 22 ≤ 6) (hh : 2 ≤ X.1 0 23 ∧ X.1 0 23 ≤ 6) : stpI X p d = -1 ∨ (0 ≤ stpI X p d ∧ stpI X p d ≤ 35) := by
  by_cases h : stpI X p d = -1
  · exact .inl h
  · rw [(stp_c h).1]
    exact nxt_bd hw hh
theorem stp_dec {X : XT} {p d : Int} (hw : 2 ≤ X.1 0 22 ∧ X.1 0 22 ≤ 6) (hh : 2 ≤ X.1 0 23 ∧ X.1 0 23 ≤ 6) (p0 : 0 ≤ p) (p1 : p ≤ 35) (d0 : 0 ≤ d) (d1 : d ≤ 3) (h : stpI X p d ≠ -1) : rkI (X.1 0 22) (X.1 0 23) d (stpI X p d) < rkI (X.1 0 22) (X.1 0 23) d p ∧ rkI (X.1 0 22) (X.1 0 23) d p ≤ 6 := by
  obtain ⟨e, c⟩ := stp_c h
  rw [e]
  exact ⟨rk_dec hw p0 p1 d0 d1 c, rk_bd hw hh p0 p1 d0 d1 c⟩
theorem stp_cg {X Y : XT} (h1 : Y.1 0 22 = X.1 0 22) (h2 : Y.1 0 23 = X.1 0 23) (h3 : Y.2.1 0 26 = X.2.1 0 26) (h4 : Y.2.1 0 32 = X.2.1 0 32) (p d : Int) : stpI Y p d = stpI X p d := by
  unfold stpI
  rw [h1, h2, h3, h4]
set_option maxHeartbeats 4000000 in
set_option maxRecDepth 100000 in
theorem qf_step {D : va_G} {ad : Nat → Nat} {cA : Nat → ClassId} {X : XT} {d : Int} (d0 : 0 ≤ d) (d1 : d ≤ 3) (hw : 2 ≤ X.1 0 22 ∧ X.1 0 22 ≤ 6) (hh : 2 ≤ X.1 0 23 ∧ X.1 0 23 ≤ 6) {p : Int} (p0 : 0 ≤ p) (p1 : p ≤ 35) : MetX (wM D ad cA) yX12_step cX12_step 4 (some .int) 2 46 [.ref 0, .int (iI (p)), .int (iI (d))] X (fun r X' => X' = X ∧ ∃ u : Int, r = some (.int (iI u)) ∧ u = stpI X p d) := by
  refine MetX.mk (own := RX12) (by decide +kernel) rfl (nle rfl) (fun E C hQ => ?_)
  refine Wx_lv (lv' := [(0, .ref 0), (1, .int (iI (p))), (2, .int (iI (d)))]) rfl ?_
  refine x_aload_n (i := 0) C dX12_step_0 rfl rfl ?_
  refine x_iload_n (i := 1) C dX12_step_1 rfl rfl ?_
  refine x_iload_n (i := 2) C dX12_step_2 rfl rfl ?_
  refine x_callV (As := [.int (iI (p)), .int (iI (d))]) C (by exact (qf_next (p := p) (d := d) (by omega) (by omega) hw hh (by omega) (by omega))) ckX12_318 im_X12_next se_X12_next (nlt rfl) rfl rfl rfl rfl (nle rfl) (by exact ⟨nle rfl, nle rfl⟩) dX12_step_3 ?_
  rintro _ Xv1 ⟨hxv1, v1, rfl, ev1⟩
  rw [hxv1]
  refine Wx_st (st' := [.int (iI (v1))]) rfl ?_
  refine x_istore_n (i := 3) (lv' := [(3, .int (iI (v1))), (0, .ref 0), (1, .int (iI (p))), (2, .int (iI (d)))]) C dX12_step_6 rfl (nlt rfl) rfl ?_
  have b3 : v1 = -1 ∨ (0 ≤ v1 ∧ v1 ≤ 35) := by rw [ev1]; exact nxt_bd hw hh
  refine x_iload_n (i := 3) C dX12_step_7 rfl rfl ?_
  refine x_iconst C dX12_step_8 ?_
  refine x_icmp_eq (tgt := 28) C dX12_step_9 (by decide) ⟨by omega, by omega⟩ ⟨by omega, by omega⟩ (fun h2 => ?_) (fun h2 => ?_)
  · refine x_iconst C dX12_step_28 ?_
    refine x_goto (tgt := 33) C dX12_step_29 (by decide) ?_
    exact x_iret C hQ dX12_step_33 (⟨rfl, _, rfl, by unfold stpI; rw [← ev1, if_pos (by omega)]⟩)
  · refine x_aload_n (i := 0) C dX12_step_12 rfl rfl ?_
    refine x_getL C fkM_X12_290 (nlt rfl) rfl dX12_step_13 ?_
    refine x_genL (fun l3 el3 => ?_)
    refine x_aload_n (i := 0) C dX12_step_16 rfl rfl ?_
    refine x_getL C fkM_X12_312 (nlt rfl) rfl dX12_step_17 ?_
    refine x_genL (fun l4 el4 => ?_)
    refine x_lor C dX12_step_20 ?_
    refine x_genL (fun l5 el5 => ?_)
    refine x_iload_n (i := 3) C dX12_step_21 rfl rfl ?_
    have el5b : l5 = X.2.1 0 26 ||| X.2.1 0 32 := by rw [el5, el3, el4]
    refine x_callS (As := [.long (l5), .int (iI (v1))]) C (by exact (qf_has (z := l5) (i := v1))) ckX12_299 sm_X12_has rfl rfl (nle rfl) (by exact ⟨nle rfl, nle rfl⟩) dX12_step_22 ?_
    rintro _ Xv6 ⟨hxv6, v6, rfl, ev6⟩
    rw [hxv6]
    have bv6 : 0 ≤ v6 ∧ v6 ≤ 1 := by rw [ev6]; exact zB_01 _
    refine Wx_st (st' := [.int (iI (v6))]) rfl ?_
    refine x_if_eq (tgt := 32) C dX12_step_25 (by decide) ⟨by omega, by omega⟩ (fun h7 => ?_) (fun h7 => ?_)
    · refine x_iload_n (i := 3) C dX12_step_32 rfl rfl ?_
      exact x_iret C hQ dX12_step_33 (⟨rfl, _, rfl, by unfold stpI; rw [← ev1, if_neg (by omega), ← el5b, if_neg (fun hh => by rw [hh] at ev6; have : zB true = 1 := rfl; omega)]⟩)
    · refine x_iconst C dX12_step_28 ?_
      refine x_goto (tgt := 33) C dX12_step_29 (by decide) ?_
      exact x_iret C hQ dX12_step_33 (⟨rfl, _, rfl, by unfold stpI; rw [← ev1, if_neg (by omega), ← el5b, if_pos (by cases hh : tb l5 (v1 % 64).toNat with | false => (rw [hh] at ev6; have : zB false = 0 := rfl; omega) | true => rfl)]⟩)
set_option maxHeartbeats 4000000 in
set_option maxRecDepth 100000 in
theorem qf_endsThere {D : va_G} {ad : Nat → Nat} {cA : Nat → ClassId} {X : XT} {f : Int} : MetX (wM D ad cA) yX12_endsThere cX12_endsThere 2 (some .boolean) 1 22 [.ref 0, .int (iI (f))] X (fun r X' => X' = X ∧ ∃ u : Int, r = some (.int (iI u)) ∧ u = zB (tb (X.2.1 0 33 ||| X.2.1 0 27) (f % 64).toNat)) := by
  refine MetX.mk (own := RX12) (by decide +kernel) rfl (nle rfl) (fun E C hQ => ?_)
  refine Wx_lv (lv' := [(0, .ref 0), (1, .int (iI (f)))]) rfl ?_
  refine x_aload_n (i := 0) C dX12_endsThere_0 rfl rfl ?_
  refine x_getL C fkM_X12_315 (nlt rfl) rfl dX12_endsThere_1 ?_
  refine x_genL (fun l1 el1 => ?_)
  refine x_aload_n (i := 0) C dX12_endsThere_4 rfl rfl ?_
  refine x_getL C fkM_X12_293 (nlt rfl) rfl dX12_endsThere_5 ?_
  refine x_genL (fun l2 el2 => ?_)
  refine x_lor C dX12_endsThere_8 ?_
  refine x_genL (fun l3 el3 => ?_)
  refine x_iload_n (i := 1) C dX12_endsThere_9 rfl rfl ?_
  refine x_callS (As := [.long (l3), .int (iI (f))]) C (by exact (qf_has (z := l3) (i := f))) ckX12_299 sm_X12_has rfl rfl (nle rfl) (by exact ⟨nle rfl, nle rfl⟩) dX12_endsThere_10 ?_
  rintro _ Xv4 ⟨hxv4, v4, rfl, ev4⟩
  rw [hxv4]
  have bv4 : 0 ≤ v4 ∧ v4 ≤ 1 := by rw [ev4]; exact zB_01 _
  refine Wx_st (st' := [.int (iI (v4))]) rfl ?_
  rw [el3, el1, el2] at ev4
  exact x_zret C hQ (by omega) dX12_endsThere_13 (⟨rfl, _, rfl, ev4⟩)
set_option maxHeartbeats 4000000 in
set_option maxRecDepth 100000 in
theorem lq_goesOn19 {D : va_G} {ad : Nat → Nat} {cA : Nat → ClassId} {X : XT} {d : Int} (d0 : 0 ≤ d) (d1 : d ≤ 3) (hH : HG vM X) (hw : 2 ≤ X.1 0 22 ∧ X.1 0 22 ≤ 6) (hh : 2 ≤ X.1 0 23 ∧ X.1 0 23 ≤ 6) {f : Int} {E : ET} (C : CX E (wM D ad cA) cX12_goesOn 6 RX12 none { frames := 3, cells := 0, slots := 0, locals := 69 }) (hQ : EQ E (wM D ad cA) (fun r X1 => r = none ∧ HG vM X1 ∧ FR (cMd k_M_40) X X1)) : ∀ (n : Nat) (p : Int) (t : Int), rkI (X.1 0 22) (X.1 0 23) d p < n → 0 ≤ p → p ≤ 35 → (t = -1 ∨ (0 ≤ t ∧ t ≤ 35)) → (t = -1 ∨ (0 ≤ rkI (X.1 0 22) (X.1 0 23) d t ∧ rkI (X.1 0 22) (X.1 0 23) d t < rkI (X.1 0 22) (X.1 0 23) d p)) → 0 ≤ rkI (X.1 0 22) (X.1 0 23) d p → Wx E (wM D ad cA) 6 (PX (wM D ad cA) X) 18 [(5, .int (iI (t))), (4, .int (iI (p))), (0, .ref 0), (1, .int (iI (f))), (2, .int (iI (d))), (3, .ref 19)] [] := by
  intro n
  induction n with
  | zero => intro p t hn p0 p1 tb tk k0; exfalso; omega
  | succ n ih =>
    intro p t hn p0 p1 tb tk k0
    have hF : FR (cMd k_M_40) X X := FR.rf
    refine x_iload C dX12_goesOn_18 rfl ?_
    refine x_iconst C dX12_goesOn_20 ?_
    refine x_icmp_eq (tgt := 63) C dX12_goesOn_21 (by decide) ⟨by omega, by omega⟩ ⟨by omega, by omega⟩ (fun h1 => ?_) (fun h1 => ?_)
    · refine x_aload_n (i := 3) C dX12_goesOn_63 rfl rfl ?_
      refine x_iload_n (i := 2) C dX12_goesOn_64 rfl rfl ?_
      refine x_dup2_11 C dX12_goesOn_65 rfl rfl ?_
      refine x_lald C (nlt rfl) rfl rfl (nle rfl) (by omega) (by omega) dX12_goesOn_66 ?_
      refine x_genL (fun l2 el2 => ?_)
      have ql2 : (0 : Int) ≤ l2.toInt ∧ l2.toInt ≤ (68719476735 : Int) := by
        rw [el2]
        exact hH.rLA (k := 19) (n := 5) (p := (0, 68719476735)) (nlt rfl) rfl (by decide +kernel) (by omega)
      refine x_lconst C dX12_goesOn_67 ?_
      refine x_eqL (b := 1) rfl ?_
      refine x_iload C dX12_goesOn_68 rfl ?_
      refine x_lshl C dX12_goesOn_70 ?_
      refine x_genL (fun l3 el3 => ?_)
      refine x_lor C dX12_goesOn_71 ?_
      refine x_genL (fun l4 el4 => ?_)
      refine x_last C (nlt rfl) rfl rfl (nle rfl) (by omega) (by omega) dX12_goesOn_72 ?_
      refine x_gX (fun Yy5 eYy5 => ?_)
      have hHy5 : HG vM Yy5 := by
        rw [eYy5]
        exact hg_wLA hH (n := 5) (p := (0, 68719476735)) (by decide +kernel) (by omega) (by rw [el4, el3]; exact m36_or ql2 (m36_bit (by omega) (by omega)))
      have hFy5 : FR (cMd k_M_40) X Yy5 := by
        rw [eYy5]
        exact FR.upL hF (rfl)
      exact x_vret C hQ dX12_goesOn_73 (⟨rfl, hHy5, hFy5⟩)
    · refine x_iload C dX12_goesOn_24 rfl ?_
      refine x_istore (lv' := [(4, .int (iI (t))), (5, .int (iI (t))), (0, .ref 0), (1, .int (iI (f))), (2, .int (iI (d))), (3, .ref 19)]) C dX12_goesOn_26 (nlt rfl) rfl ?_
      refine x_aload_n (i := 0) C dX12_goesOn_28 rfl rfl ?_
      refine x_iload C dX12_goesOn_29 rfl ?_
      refine x_callV (As := [.int (iI (t))]) C (by exact (qf_endsThere (f := t))) ckX12_325 im_X12_endsThere se_X12_endsThere (nlt rfl) rfl rfl rfl rfl (nle rfl) (by exact ⟨nle rfl, nle rfl⟩) dX12_goesOn_31 ?_
      rintro _ Xv6 ⟨hxv6, v6, rfl, ev6⟩
      rw [hxv6]
      have bv6 : 0 ≤ v6 ∧ v6 ≤ 1 := by rw [ev6]; exact zB_01 _
      refine Wx_st (st' := [.int (iI (v6))]) rfl ?_
      refine x_if_eq (tgt := 51) C dX12_goesOn_34 (by decide) ⟨by omega, by omega⟩ (fun h7 => ?_) (fun h7 => ?_)
      · refine x_aload_n (i := 0) C dX12_goesOn_51 rfl rfl ?_
        refine x_iload C dX12_goesOn_52 rfl ?_
        refine x_iload_n (i := 2) C dX12_goesOn_54 rfl rfl ?_
        refine x_callV (As := [.int (iI (t)), .int (iI (d))]) C (by exact (qf_step (p := t) (d := d) (by omega) (by omega) hw hh (by omega) (by omega))) ckX12_322 im_X12_step se_X12_step (nlt rfl) rfl rfl rfl rfl (nle rfl) (by exact ⟨nle rfl, nle rfl⟩) dX12_goesOn_55 ?_
        rintro _ Xv8 ⟨hxv8, v8, rfl, ev8⟩
        rw [hxv8]
        refine Wx_st (st' := [.int (iI (v8))]) rfl ?_
        have bv8 : v8 = -1 ∨ (0 ≤ v8 ∧ v8 ≤ 35) := by rw [ev8]; exact stp_bd hw hh
        have kv8 : v8 = -1 ∨ (0 ≤ rkI (X.1 0 22) (X.1 0 23) d v8 ∧ rkI (X.1 0 22) (X.1 0 23) d v8 < rkI (X.1 0 22) (X.1 0 23) d t) := by
          by_cases q : v8 = -1
          · exact .inl q
          · rw [ev8] at q bv8 ⊢
            exact .inr ⟨rk_nn hw (by omega) (by omega), (stp_dec hw hh (by omega) (by omega) d0 d1 q).1⟩
        refine x_istore (lv' := [(5, .int (iI (v8))), (4, .int (iI (t))), (0, .ref 0), (1, .int (iI (f))), (2, .int (iI (d))), (3, .ref 19)]) C dX12_goesOn_58 (nlt rfl) rfl ?_
        refine x_goto (tgt := 18) C dX12_goesOn_60 (by decide) ?_
        exact ih _ _ (by omega) (by omega) (by omega) bv8 kv8 (by omega)
      · refine x_aload_n (i := 0) C dX12_goesOn_37 rfl rfl ?_
        refine x_dup C dX12_goesOn_38 rfl ?_
        refine x_getL C fkM_X12_328 (nlt rfl) rfl dX12_goesOn_39 ?_
        refine x_genL (fun l9 el9 => ?_)
        have ql9 : (0 : Int) ≤ l9.toInt ∧ l9.toInt ≤ (68719476735 : Int) := by
          rw [el9]
          exact hH.rLF (k := 0) (i := 34) (p := (0, 68719476735)) rfl rfl
        refine x_lconst C dX12_goesOn_42 ?_
        refine x_eqL (b := 1) rfl ?_
        refine x_iload C dX12_goesOn_43 rfl ?_
        refine x_lshl C dX12_goesOn_45 ?_
        refine x_genL (fun l10 el10 => ?_)
        refine x_lor C dX12_goesOn_46 ?_
        refine x_genL (fun l11 el11 => ?_)
        refine x_putL C pkM_X12_328 (nlt rfl) rfl dX12_goesOn_47 ?_
        refine x_gX (fun Yy12 eYy12 => ?_)
        have hHy12 : HG vM Yy12 := by
          rw [eYy12]
          exact hg_wLF hH (p := (0, 68719476735)) rfl (by rw [el11, el10]; exact m36_or ql9 (m36_bit (by omega) (by omega)))
        have hFy12 : FR (cMd k_M_40) X Yy12 := by
          rw [eYy12]
          exact FR.upL hF (rfl)
        exact x_vret C hQ dX12_goesOn_50 (⟨rfl, hHy12, hFy12⟩)
set_option maxHeartbeats 4000000 in
set_option maxRecDepth 100000 in
theorem q_goesOn19 {D : va_G} {ad : Nat → Nat} {cA : Nat → ClassId} {X : XT} {f d : Int} (f0 : 0 ≤ f) (f1 : f ≤ 35) (d0 : 0 ≤ d) (d1 : d ≤ 4) (hH : HG vM X) (hw : 2 ≤ X.1 0 22 ∧ X.1 0 22 ≤ 6) (hh : 2 ≤ X.1 0 23 ∧ X.1 0 23 ≤ 6) : MetX (wM D ad cA) yX12_goesOn cX12_goesOn 6 none 3 69 [.ref 0, .int (iI (f)), .int (iI (d)), .ref 19] X (fun r X1 => r = none ∧ HG vM X1 ∧ FR (cMd k_M_40) X X1) := by
  refine MetX.mk (own := RX12) (by decide +kernel) rfl (nle rfl) (fun E C hQ => ?_)
  refine Wx_lv (lv' := [(0, .ref 0), (1, .int (iI (f))), (2, .int (iI (d))), (3, .ref 19)]) rfl ?_
  refine x_iload_n (i := 2) C dX12_goesOn_0 rfl rfl ?_
  refine x_iconst C dX12_goesOn_1 ?_
  refine x_icmp_ne (tgt := 6) C dX12_goesOn_2 (by decide) ⟨by omega, by omega⟩ ⟨by omega, by omega⟩ (fun h1 => ?_) (fun h1 => ?_)
  · refine x_iload_n (i := 1) C dX12_goesOn_6 rfl rfl ?_
    refine x_istore (lv' := [(4, .int (iI (f))), (0, .ref 0), (1, .int (iI (f))), (2, .int (iI (d))), (3, .ref 19)]) C dX12_goesOn_7 (nlt rfl) rfl ?_
    refine x_aload_n (i := 0) C dX12_goesOn_9 rfl rfl ?_
    refine x_iload C dX12_goesOn_10 rfl ?_
    refine x_iload_n (i := 2) C dX12_goesOn_12 rfl rfl ?_
    refine x_callV (As := [.int (iI (f)), .int (iI (d))]) C (by exact (qf_step (p := f) (d := d) (by omega) (by omega) hw hh (by omega) (by omega))) ckX12_322 im_X12_step se_X12_step (nlt rfl) rfl rfl rfl rfl (nle rfl) (by exact ⟨nle rfl, nle rfl⟩) dX12_goesOn_13 ?_
    rintro _ Xv2 ⟨hxv2, v2, rfl, ev2⟩
    rw [hxv2]
    refine Wx_st (st' := [.int (iI (v2))]) rfl ?_
    have bv2 : v2 = -1 ∨ (0 ≤ v2 ∧ v2 ≤ 35) := by rw [ev2]; exact stp_bd hw hh
    have kv2 : v2 = -1 ∨ (0 ≤ rkI (X.1 0 22) (X.1 0 23) d v2 ∧ rkI (X.1 0 22) (X.1 0 23) d v2 < rkI (X.1 0 22) (X.1 0 23) d f) := by
      by_cases q : v2 = -1
      · exact .inl q
      · rw [ev2] at q bv2 ⊢
        exact .inr ⟨rk_nn hw (by omega) (by omega), (stp_dec hw hh (by omega) (by omega) (by omega) (by omega) q).1⟩
    refine x_istore (lv' := [(5, .int (iI (v2))), (4, .int (iI (f))), (0, .ref 0), (1, .int (iI (f))), (2, .int (iI (d))), (3, .ref 19)]) C dX12_goesOn_16 (nlt rfl) rfl ?_
    have nf := rk_nn (H := X.1 0 23) (d := d) (p := f) hw (by omega) (by omega)
    exact lq_goesOn19 (by omega) (by omega) hH hw hh C hQ (rkI (X.1 0 22) (X.1 0 23) d f + 1).toNat f v2 (by omega) (by omega) (by omega) bv2 kv2 (by omega)
  · exact x_vret C hQ dX12_goesOn_5 (⟨rfl, hH, FR.rf⟩)
set_option maxRecDepth 10000 in
theorem t_M_40 {D : va_G} {ad : Nat → Nat} {cA : Nat → ClassId} : CTR mtM vM gM (wM D ad cA) k_M_40 := by
  intro g X hpre
  obtain ⟨h00, hei, hel, hdl, hH, hE⟩ := hpre
  have h0 : (0 : Int) ≤ g.1 0 ∧ g.1 0 ≤ (0 : Int) := hei 0 _ rfl
  have h1 : (0 : Int) ≤ g.1 1 ∧ g.1 1 ≤ (35 : Int) := hei 1 _ rfl
  have h2 : (0 : Int) ≤ g.1 2 ∧ g.1 2 ≤ (4 : Int) := hei 2 _ rfl
  have h3 : (2 : Int) ≤ g.1 3 ∧ g.1 3 ≤ (6 : Int) := hei 3 _ rfl
  have h4 : (2 : Int) ≤ g.1 4 ∧ g.1 4 ≤ (6 : Int) := hei 4 _ rfl
  have e0 : X.1 0 22 = g.1 3 + 0 := (hdl ((0, 22), (0, 3, 0)) (.head _))
  have e1 : X.1 0 23 = g.1 4 + 0 := (hdl ((0, 23), (0, 4, 0)) (.tail _ (.head _)))
  refine MetX.imp (fun r X1 hp => ?_) (q_goesOn19 (X := X) (f := g.1 1 + 0) (d := g.1 2 + 0) (by omega) (by omega) (by omega) (by omega) hH ⟨by omega, by omega⟩ ⟨by omega, by omega⟩)
  obtain ⟨rfl, hH1, hF1⟩ := hp
  exact (altM_mk 0 [] rfl (ei_cons ⟨by show (0 : Int) ≤ g.1 0; omega, by show g.1 0 ≤ (0 : Int); omega⟩ (ei_cons ⟨by show (0 : Int) ≤ g.1 1; omega, by show g.1 1 ≤ (35 : Int); omega⟩ (ei_cons ⟨by show (0 : Int) ≤ g.1 2; omega, by show g.1 2 ≤ (4 : Int); omega⟩ (ei_cons ⟨by show (2 : Int) ≤ g.1 3; omega, by show g.1 3 ≤ (6 : Int); omega⟩ (ei_cons ⟨by show (2 : Int) ≤ g.1 4; omega, by show g.1 4 ≤ (6 : Int); omega⟩ ei_nil))))) el_nil (by rfl) dl_nil gd_nil hH1 (bok_fr hE hF1 rfl) hF1)
set_option maxHeartbeats 4000000 in
set_option maxRecDepth 100000 in
theorem lq_goesOn15 {D : va_G} {ad : Nat → Nat} {cA : Nat → ClassId} {X : XT} {d : Int} (d0 : 0 ≤ d) (d1 : d ≤ 3) (hH : HG vM X) (hw : 2 ≤ X.1 0 22 ∧ X.1 0 22 ≤ 6) (hh : 2 ≤ X.1 0 23 ∧ X.1 0 23 ≤ 6) {f : Int} {E : ET} (C : CX E (wM D ad cA) cX12_goesOn 6 RX12 none { frames := 3, cells := 0, slots := 0, locals := 69 }) (hQ : EQ E (wM D ad cA) (fun r X1 => r = none ∧ HG vM X1 ∧ FR (cMd k_M_49) X X1)) : ∀ (n : Nat) (p : Int) (t : Int), rkI (X.1 0 22) (X.1 0 23) d p < n → 0 ≤ p → p ≤ 35 → (t = -1 ∨ (0 ≤ t ∧ t ≤ 35)) → (t = -1 ∨ (0 ≤ rkI (X.1 0 22) (X.1 0 23) d t ∧ rkI (X.1 0 22) (X.1 0 23) d t < rkI (X.1 0 22) (X.1 0 23) d p)) → 0 ≤ rkI (X.1 0 22) (X.1 0 23) d p → Wx E (wM D ad cA) 6 (PX (wM D ad cA) X) 18 [(5, .int (iI (t))), (4, .int (iI (p))), (0, .ref 0), (1, .int (iI (f))), (2, .int (iI (d))), (3, .ref 15)] [] := by
  intro n
  induction n with
  | zero => intro p t hn p0 p1 tb tk k0; exfalso; omega
  | succ n ih =>
    intro p t hn p0 p1 tb tk k0
    have hF : FR (cMd k_M_49) X X := FR.rf
    refine x_iload C dX12_goesOn_18 rfl ?_
    refine x_iconst C dX12_goesOn_20 ?_
    refine x_icmp_eq (tgt := 63) C dX12_goesOn_21 (by decide) ⟨by omega, by omega⟩ ⟨by omega, by omega⟩ (fun h1 => ?_) (fun h1 => ?_)
    · refine x_aload_n (i := 3) C dX12_goesOn_63 rfl rfl ?_
      refine x_iload_n (i := 2) C dX12_goesOn_64 rfl rfl ?_
      refine x_dup2_11 C dX12_goesOn_65 rfl rfl ?_
      refine x_lald C (nlt rfl) rfl rfl (nle rfl) (by omega) (by omega) dX12_goesOn_66 ?_
      refine x_genL (fun l2 el2 => ?_)
      have ql2 : (0 : Int) ≤ l2.toInt ∧ l2.toInt ≤ (68719476735 : Int) := by
        rw [el2]
        exact hH.rLA (k := 15) (n := 5) (p := (0, 68719476735)) (nlt rfl) rfl (by decide +kernel) (by omega)
      refine x_lconst C dX12_goesOn_67 ?_
      refine x_eqL (b := 1) rfl ?_
      refine x_iload C dX12_goesOn_68 rfl ?_
      refine x_lshl C dX12_goesOn_70 ?_
      refine x_genL (fun l3 el3 => ?_)
      refine x_lor C dX12_goesOn_71 ?_
      refine x_genL (fun l4 el4 => ?_)
      refine x_last C (nlt rfl) rfl rfl (nle rfl) (by omega) (by omega) dX12_goesOn_72 ?_
      refine x_gX (fun Yy5 eYy5 => ?_)
      have hHy5 : HG vM Yy5 := by
        rw [eYy5]
        exact hg_wLA hH (n := 5) (p := (0, 68719476735)) (by decide +kernel) (by omega) (by rw [el4, el3]; exact m36_or ql2 (m36_bit (by omega) (by omega)))
      have hFy5 : FR (cMd k_M_49) X Yy5 := by
        rw [eYy5]
        exact FR.upL hF (rfl)
      exact x_vret C hQ dX12_goesOn_73 (⟨rfl, hHy5, hFy5⟩)
    · refine x_iload C dX12_goesOn_24 rfl ?_
      refine x_istore (lv' := [(4, .int (iI (t))), (5, .int (iI (t))), (0, .ref 0), (1, .int (iI (f))), (2, .int (iI (d))), (3, .ref 15)]) C dX12_goesOn_26 (nlt rfl) rfl ?_
      refine x_aload_n (i := 0) C dX12_goesOn_28 rfl rfl ?_
      refine x_iload C dX12_goesOn_29 rfl ?_
      refine x_callV (As := [.int (iI (t))]) C (by exact (qf_endsThere (f := t))) ckX12_325 im_X12_endsThere se_X12_endsThere (nlt rfl) rfl rfl rfl rfl (nle rfl) (by exact ⟨nle rfl, nle rfl⟩) dX12_goesOn_31 ?_
      rintro _ Xv6 ⟨hxv6, v6, rfl, ev6⟩
      rw [hxv6]
      have bv6 : 0 ≤ v6 ∧ v6 ≤ 1 := by rw [ev6]; exact zB_01 _
      refine Wx_st (st' := [.int (iI (v6))]) rfl ?_
      refine x_if_eq (tgt := 51) C dX12_goesOn_34 (by decide) ⟨by omega, by omega⟩ (fun h7 => ?_) (fun h7 => ?_)
      · refine x_aload_n (i := 0) C dX12_goesOn_51 rfl rfl ?_
        refine x_iload C dX12_goesOn_52 rfl ?_
        refine x_iload_n (i := 2) C dX12_goesOn_54 rfl rfl ?_
        refine x_callV (As := [.int (iI (t)), .int (iI (d))]) C (by exact (qf_step (p := t) (d := d) (by omega) (by omega) hw hh (by omega) (by omega))) ckX12_322 im_X12_step se_X12_step (nlt rfl) rfl rfl rfl rfl (nle rfl) (by exact ⟨nle rfl, nle rfl⟩) dX12_goesOn_55 ?_
        rintro _ Xv8 ⟨hxv8, v8, rfl, ev8⟩
        rw [hxv8]
        refine Wx_st (st' := [.int (iI (v8))]) rfl ?_
        have bv8 : v8 = -1 ∨ (0 ≤ v8 ∧ v8 ≤ 35) := by rw [ev8]; exact stp_bd hw hh
        have kv8 : v8 = -1 ∨ (0 ≤ rkI (X.1 0 22) (X.1 0 23) d v8 ∧ rkI (X.1 0 22) (X.1 0 23) d v8 < rkI (X.1 0 22) (X.1 0 23) d t) := by
          by_cases q : v8 = -1
          · exact .inl q
          · rw [ev8] at q bv8 ⊢
            exact .inr ⟨rk_nn hw (by omega) (by omega), (stp_dec hw hh (by omega) (by omega) d0 d1 q).1⟩
        refine x_istore (lv' := [(5, .int (iI (v8))), (4, .int (iI (t))), (0, .ref 0), (1, .int (iI (f))), (2, .int (iI (d))), (3, .ref 15)]) C dX12_goesOn_58 (nlt rfl) rfl ?_
        refine x_goto (tgt := 18) C dX12_goesOn_60 (by decide) ?_
        exact ih _ _ (by omega) (by omega) (by omega) bv8 kv8 (by omega)
      · refine x_aload_n (i := 0) C dX12_goesOn_37 rfl rfl ?_
        refine x_dup C dX12_goesOn_38 rfl ?_
        refine x_getL C fkM_X12_328 (nlt rfl) rfl dX12_goesOn_39 ?_
        refine x_genL (fun l9 el9 => ?_)
        have ql9 : (0 : Int) ≤ l9.toInt ∧ l9.toInt ≤ (68719476735 : Int) := by
          rw [el9]
          exact hH.rLF (k := 0) (i := 34) (p := (0, 68719476735)) rfl rfl
        refine x_lconst C dX12_goesOn_42 ?_
        refine x_eqL (b := 1) rfl ?_
        refine x_iload C dX12_goesOn_43 rfl ?_
        refine x_lshl C dX12_goesOn_45 ?_
        refine x_genL (fun l10 el10 => ?_)
        refine x_lor C dX12_goesOn_46 ?_
        refine x_genL (fun l11 el11 => ?_)
        refine x_putL C pkM_X12_328 (nlt rfl) rfl dX12_goesOn_47 ?_
        refine x_gX (fun Yy12 eYy12 => ?_)
        have hHy12 : HG vM Yy12 := by
          rw [eYy12]
          exact hg_wLF hH (p := (0, 68719476735)) rfl (by rw [el11, el10]; exact m36_or ql9 (m36_bit (by omega) (by omega)))
        have hFy12 : FR (cMd k_M_49) X Yy12 := by
          rw [eYy12]
          exact FR.upL hF (rfl)
        exact x_vret C hQ dX12_goesOn_50 (⟨rfl, hHy12, hFy12⟩)
set_option maxHeartbeats 4000000 in
set_option maxRecDepth 100000 in
theorem q_goesOn15 {D : va_G} {ad : Nat → Nat} {cA : Nat → ClassId} {X : XT} {f d : Int} (f0 : 0 ≤ f) (f1 : f ≤ 35) (d0 : 0 ≤ d) (d1 : d ≤ 4) (hH : HG vM X) (hw : 2 ≤ X.1 0 22 ∧ X.1 0 22 ≤ 6) (hh : 2 ≤ X.1 0 23 ∧ X.1 0 23 ≤ 6) : MetX (wM D ad cA) yX12_goesOn cX12_goesOn 6 none 3 69 [.ref 0, .int (iI (f)), .int (iI (d)), .ref 15] X (fun r X1 => r = none ∧ HG vM X1 ∧ FR (cMd k_M_49) X X1) := by
  refine MetX.mk (own := RX12) (by decide +kernel) rfl (nle rfl) (fun E C hQ => ?_)
  refine Wx_lv (lv' := [(0, .ref 0), (1, .int (iI (f))), (2, .int (iI (d))), (3, .ref 15)]) rfl ?_
  refine x_iload_n (i := 2) C dX12_goesOn_0 rfl rfl ?_
  refine x_iconst C dX12_goesOn_1 ?_
  refine x_icmp_ne (tgt := 6) C dX12_goesOn_2 (by decide) ⟨by omega, by omega⟩ ⟨by omega, by omega⟩ (fun h1 => ?_) (fun h1 => ?_)
  · refine x_iload_n (i := 1) C dX12_goesOn_6 rfl rfl ?_
    refine x_istore (lv' := [(4, .int (iI (f))), (0, .ref 0), (1, .int (iI (f))), (2, .int (iI (d))), (3, .ref 15)]) C dX12_goesOn_7 (nlt rfl) rfl ?_
    refine x_aload_n (i := 0) C dX12_goesOn_9 rfl rfl ?_
    refine x_iload C dX12_goesOn_10 rfl ?_
    refine x_iload_n (i := 2) C dX12_goesOn_12 rfl rfl ?_
    refine x_callV (As := [.int (iI (f)), .int (iI (d))]) C (by exact (qf_step (p := f) (d := d) (by omega) (by omega) hw hh (by omega) (by omega))) ckX12_322 im_X12_step se_X12_step (nlt rfl) rfl rfl rfl rfl (nle rfl) (by exact ⟨nle rfl, nle rfl⟩) dX12_goesOn_13 ?_
    rintro _ Xv2 ⟨hxv2, v2, rfl, ev2⟩
    rw [hxv2]
    refine Wx_st (st' := [.int (iI (v2))]) rfl ?_
    have bv2 : v2 = -1 ∨ (0 ≤ v2 ∧ v2 ≤ 35) := by rw [ev2]; exact stp_bd hw hh
    have kv2 : v2 = -1 ∨ (0 ≤ rkI (X.1 0 22) (X.1 0 23) d v2 ∧ rkI (X.1 0 22) (X.1 0 23) d v2 < rkI (X.1 0 22) (X.1 0 23) d f) := by
      by_cases q : v2 = -1
      · exact .inl q
      · rw [ev2] at q bv2 ⊢
        exact .inr ⟨rk_nn hw (by omega) (by omega), (stp_dec hw hh (by omega) (by omega) (by omega) (by omega) q).1⟩
    refine x_istore (lv' := [(5, .int (iI (v2))), (4, .int (iI (f))), (0, .ref 0), (1, .int (iI (f))), (2, .int (iI (d))), (3, .ref 15)]) C dX12_goesOn_16 (nlt rfl) rfl ?_
    have nf := rk_nn (H := X.1 0 23) (d := d) (p := f) hw (by omega) (by omega)
    exact lq_goesOn15 (by omega) (by omega) hH hw hh C hQ (rkI (X.1 0 22) (X.1 0 23) d f + 1).toNat f v2 (by omega) (by omega) (by omega) bv2 kv2 (by omega)
  · exact x_vret C hQ dX12_goesOn_5 (⟨rfl, hH, FR.rf⟩)
set_option maxRecDepth 10000 in
theorem t_M_49 {D : va_G} {ad : Nat → Nat} {cA : Nat → ClassId} : CTR mtM vM gM (wM D ad cA) k_M_49 := by
  intro g X hpre
  obtain ⟨h00, hei, hel, hdl, hH, hE⟩ := hpre
  have h0 : (0 : Int) ≤ g.1 0 ∧ g.1 0 ≤ (0 : Int) := hei 0 _ rfl
  have h1 : (0 : Int) ≤ g.1 1 ∧ g.1 1 ≤ (35 : Int) := hei 1 _ rfl
  have h2 : (0 : Int) ≤ g.1 2 ∧ g.1 2 ≤ (4 : Int) := hei 2 _ rfl
  have h3 : (2 : Int) ≤ g.1 3 ∧ g.1 3 ≤ (6 : Int) := hei 3 _ rfl
  have h4 : (2 : Int) ≤ g.1 4 ∧ g.1 4 ≤ (6 : Int) := hei 4 _ rfl
  have e0 : X.1 0 22 = g.1 3 + 0 := (hdl ((0, 22), (0, 3, 0)) (.head _))
  have e1 : X.1 0 23 = g.1 4 + 0 := (hdl ((0, 23), (0, 4, 0)) (.tail _ (.head _)))
  refine MetX.imp (fun r X1 hp => ?_) (q_goesOn15 (X := X) (f := g.1 1 + 0) (d := g.1 2 + 0) (by omega) (by omega) (by omega) (by omega) hH ⟨by omega, by omega⟩ ⟨by omega, by omega⟩)
  obtain ⟨rfl, hH1, hF1⟩ := hp
  exact (altM_mk 0 [] rfl (ei_cons ⟨by show (0 : Int) ≤ g.1 0; omega, by show g.1 0 ≤ (0 : Int); omega⟩ (ei_cons ⟨by show (0 : Int) ≤ g.1 1; omega, by show g.1 1 ≤ (35 : Int); omega⟩ (ei_cons ⟨by show (0 : Int) ≤ g.1 2; omega, by show g.1 2 ≤ (4 : Int); omega⟩ (ei_cons ⟨by show (2 : Int) ≤ g.1 3; omega, by show g.1 3 ≤ (6 : Int); omega⟩ (ei_cons ⟨by show (2 : Int) ≤ g.1 4; omega, by show g.1 4 ≤ (6 : Int); omega⟩ ei_nil))))) el_nil (by rfl) dl_nil gd_nil hH1 (bok_fr hE hF1 rfl) hF1)
set_option maxHeartbeats 4000000 in
set_option maxRecDepth 100000 in
theorem lq_goesOn24 {D : va_G} {ad : Nat → Nat} {cA : Nat → ClassId} {X : XT} {d : Int} (d0 : 0 ≤ d) (d1 : d ≤ 3) (hH : HG vM X) (hw : 2 ≤ X.1 0 22 ∧ X.1 0 22 ≤ 6) (hh : 2 ≤ X.1 0 23 ∧ X.1 0 23 ≤ 6) {f : Int} {E : ET} (C : CX E (wM D ad cA) cX12_goesOn 6 RX12 none { frames := 3, cells := 0, slots := 0, locals := 69 }) (hQ : EQ E (wM D ad cA) (fun r X1 => r = none ∧ HG vM X1 ∧ FR (cMd k_M_61) X X1)) : ∀ (n : Nat) (p : Int) (t : Int), rkI (X.1 0 22) (X.1 0 23) d p < n → 0 ≤ p → p ≤ 35 → (t = -1 ∨ (0 ≤ t ∧ t ≤ 35)) → (t = -1 ∨ (0 ≤ rkI (X.1 0 22) (X.1 0 23) d t ∧ rkI (X.1 0 22) (X.1 0 23) d t < rkI (X.1 0 22) (X.1 0 23) d p)) → 0 ≤ rkI (X.1 0 22) (X.1 0 23) d p → Wx E (wM D ad cA) 6 (PX (wM D ad cA) X) 18 [(5, .int (iI (t))), (4, .int (iI (p))), (0, .ref 0), (1, .int (iI (f))), (2, .int (iI (d))), (3, .ref 24)] [] := by
  intro n
  induction n with
  | zero => intro p t hn p0 p1 tb tk k0; exfalso; omega
  | succ n ih =>
    intro p t hn p0 p1 tb tk k0
    have hF : FR (cMd k_M_61) X X := FR.rf
    refine x_iload C dX12_goesOn_18 rfl ?_
    refine x_iconst C dX12_goesOn_20 ?_
    refine x_icmp_eq (tgt := 63) C dX12_goesOn_21 (by decide) ⟨by omega, by omega⟩ ⟨by omega, by omega⟩ (fun h1 => ?_) (fun h1 => ?_)
    · refine x_aload_n (i := 3) C dX12_goesOn_63 rfl rfl ?_
      refine x_iload_n (i := 2) C dX12_goesOn_64 rfl rfl ?_
      refine x_dup2_11 C dX12_goesOn_65 rfl rfl ?_
      refine x_lald C (nlt rfl) rfl rfl (nle rfl) (by omega) (by omega) dX12_goesOn_66 ?_
      refine x_genL (fun l2 el2 => ?_)
      have ql2 : (0 : Int) ≤ l2.toInt ∧ l2.toInt ≤ (68719476735 : Int) := by
        rw [el2]
        exact hH.rLA (k := 24) (n := 5) (p := (0, 68719476735)) (nlt rfl) rfl (by decide +kernel) (by omega)
      refine x_lconst C dX12_goesOn_67 ?_
      refine x_eqL (b := 1) rfl ?_
      refine x_iload C dX12_goesOn_68 rfl ?_
      refine x_lshl C dX12_goesOn_70 ?_
      refine x_genL (fun l3 el3 => ?_)
      refine x_lor C dX12_goesOn_71 ?_
      refine x_genL (fun l4 el4 => ?_)
      refine x_last C (nlt rfl) rfl rfl (nle rfl) (by omega) (by omega) dX12_goesOn_72 ?_
      refine x_gX (fun Yy5 eYy5 => ?_)
      have hHy5 : HG vM Yy5 := by
        rw [eYy5]
        exact hg_wLA hH (n := 5) (p := (0, 68719476735)) (by decide +kernel) (by omega) (by rw [el4, el3]; exact m36_or ql2 (m36_bit (by omega) (by omega)))
      have hFy5 : FR (cMd k_M_61) X Yy5 := by
        rw [eYy5]
        exact FR.upL hF (rfl)
      exact x_vret C hQ dX12_goesOn_73 (⟨rfl, hHy5, hFy5⟩)
    · refine x_iload C dX12_goesOn_24 rfl ?_
      refine x_istore (lv' := [(4, .int (iI (t))), (5, .int (iI (t))), (0, .ref 0), (1, .int (iI (f))), (2, .int (iI (d))), (3, .ref 24)]) C dX12_goesOn_26 (nlt rfl) rfl ?_
      refine x_aload_n (i := 0) C dX12_goesOn_28 rfl rfl ?_
      refine x_iload C dX12_goesOn_29 rfl ?_
      refine x_callV (As := [.int (iI (t))]) C (by exact (qf_endsThere (f := t))) ckX12_325 im_X12_endsThere se_X12_endsThere (nlt rfl) rfl rfl rfl rfl (nle rfl) (by exact ⟨nle rfl, nle rfl⟩) dX12_goesOn_31 ?_
      rintro _ Xv6 ⟨hxv6, v6, rfl, ev6⟩
      rw [hxv6]
      have bv6 : 0 ≤ v6 ∧ v6 ≤ 1 := by rw [ev6]; exact zB_01 _
      refine Wx_st (st' := [.int (iI (v6))]) rfl ?_
      refine x_if_eq (tgt := 51) C dX12_goesOn_34 (by decide) ⟨by omega, by omega⟩ (fun h7 => ?_) (fun h7 => ?_)
      · refine x_aload_n (i := 0) C dX12_goesOn_51 rfl rfl ?_
        refine x_iload C dX12_goesOn_52 rfl ?_
        refine x_iload_n (i := 2) C dX12_goesOn_54 rfl rfl ?_
        refine x_callV (As := [.int (iI (t)), .int (iI (d))]) C (by exact (qf_step (p := t) (d := d) (by omega) (by omega) hw hh (by omega) (by omega))) ckX12_322 im_X12_step se_X12_step (nlt rfl) rfl rfl rfl rfl (nle rfl) (by exact ⟨nle rfl, nle rfl⟩) dX12_goesOn_55 ?_
        rintro _ Xv8 ⟨hxv8, v8, rfl, ev8⟩
        rw [hxv8]
        refine Wx_st (st' := [.int (iI (v8))]) rfl ?_
        have bv8 : v8 = -1 ∨ (0 ≤ v8 ∧ v8 ≤ 35) := by rw [ev8]; exact stp_bd hw hh
        have kv8 : v8 = -1 ∨ (0 ≤ rkI (X.1 0 22) (X.1 0 23) d v8 ∧ rkI (X.1 0 22) (X.1 0 23) d v8 < rkI (X.1 0 22) (X.1 0 23) d t) := by
          by_cases q : v8 = -1
          · exact .inl q
          · rw [ev8] at q bv8 ⊢
            exact .inr ⟨rk_nn hw (by omega) (by omega), (stp_dec hw hh (by omega) (by omega) d0 d1 q).1⟩
        refine x_istore (lv' := [(5, .int (iI (v8))), (4, .int (iI (t))), (0, .ref 0), (1, .int (iI (f))), (2, .int (iI (d))), (3, .ref 24)]) C dX12_goesOn_58 (nlt rfl) rfl ?_
        refine x_goto (tgt := 18) C dX12_goesOn_60 (by decide) ?_
        exact ih _ _ (by omega) (by omega) (by omega) bv8 kv8 (by omega)
      · refine x_aload_n (i := 0) C dX12_goesOn_37 rfl rfl ?_
        refine x_dup C dX12_goesOn_38 rfl ?_
        refine x_getL C fkM_X12_328 (nlt rfl) rfl dX12_goesOn_39 ?_
        refine x_genL (fun l9 el9 => ?_)
        have ql9 : (0 : Int) ≤ l9.toInt ∧ l9.toInt ≤ (68719476735 : Int) := by
          rw [el9]
          exact hH.rLF (k := 0) (i := 34) (p := (0, 68719476735)) rfl rfl
        refine x_lconst C dX12_goesOn_42 ?_
        refine x_eqL (b := 1) rfl ?_
        refine x_iload C dX12_goesOn_43 rfl ?_
        refine x_lshl C dX12_goesOn_45 ?_
        refine x_genL (fun l10 el10 => ?_)
        refine x_lor C dX12_goesOn_46 ?_
        refine x_genL (fun l11 el11 => ?_)
        refine x_putL C pkM_X12_328 (nlt rfl) rfl dX12_goesOn_47 ?_
        refine x_gX (fun Yy12 eYy12 => ?_)
        have hHy12 : HG vM Yy12 := by
          rw [eYy12]
          exact hg_wLF hH (p := (0, 68719476735)) rfl (by rw [el11, el10]; exact m36_or ql9 (m36_bit (by omega) (by omega)))
        have hFy12 : FR (cMd k_M_61) X Yy12 := by
          rw [eYy12]
          exact FR.upL hF (rfl)
        exact x_vret C hQ dX12_goesOn_50 (⟨rfl, hHy12, hFy12⟩)
set_option maxHeartbeats 4000000 in
set_option maxRecDepth 100000 in
theorem q_goesOn24 {D : va_G} {ad : Nat → Nat} {cA : Nat → ClassId} {X : XT} {f d : Int} (f0 : 0 ≤ f) (f1 : f ≤ 35) (d0 : 0 ≤ d) (d1 : d ≤ 4) (hH : HG vM X) (hw : 2 ≤ X.1 0 22 ∧ X.1 0 22 ≤ 6) (hh : 2 ≤ X.1 0 23 ∧ X.1 0 23 ≤ 6) : MetX (wM D ad cA) yX12_goesOn cX12_goesOn 6 none 3 69 [.ref 0, .int (iI (f)), .int (iI (d)), .ref 24] X (fun r X1 => r = none ∧ HG vM X1 ∧ FR (cMd k_M_61) X X1) := by
  refine MetX.mk (own := RX12) (by decide +kernel) rfl (nle rfl) (fun E C hQ => ?_)
  refine Wx_lv (lv' := [(0, .ref 0), (1, .int (iI (f))), (2, .int (iI (d))), (3, .ref 24)]) rfl ?_
  refine x_iload_n (i := 2) C dX12_goesOn_0 rfl rfl ?_
  refine x_iconst C dX12_goesOn_1 ?_
  refine x_icmp_ne (tgt := 6) C dX12_goesOn_2 (by decide) ⟨by omega, by omega⟩ ⟨by omega, by omega⟩ (fun h1 => ?_) (fun h1 => ?_)
  · refine x_iload_n (i := 1) C dX12_goesOn_6 rfl rfl ?_
    refine x_istore (lv' := [(4, .int (iI (f))), (0, .ref 0), (1, .int (iI (f))), (2, .int (iI (d))), (3, .ref 24)]) C dX12_goesOn_7 (nlt rfl) rfl ?_
    refine x_aload_n (i := 0) C dX12_goesOn_9 rfl rfl ?_
    refine x_iload C dX12_goesOn_10 rfl ?_
    refine x_iload_n (i := 2) C dX12_goesOn_12 rfl rfl ?_
    refine x_callV (As := [.int (iI (f)), .int (iI (d))]) C (by exact (qf_step (p := f) (d := d) (by omega) (by omega) hw hh (by omega) (by omega))) ckX12_322 im_X12_step se_X12_step (nlt rfl) rfl rfl rfl rfl (nle rfl) (by exact ⟨nle rfl, nle rfl⟩) dX12_goesOn_13 ?_
    rintro _ Xv2 ⟨hxv2, v2, rfl, ev2⟩
    rw [hxv2]
    refine Wx_st (st' := [.int (iI (v2))]) rfl ?_
    have bv2 : v2 = -1 ∨ (0 ≤ v2 ∧ v2 ≤ 35) := by rw [ev2]; exact stp_bd hw hh
    have kv2 : v2 = -1 ∨ (0 ≤ rkI (X.1 0 22) (X.1 0 23) d v2 ∧ rkI (X.1 0 22) (X.1 0 23) d v2 < rkI (X.1 0 22) (X.1 0 23) d f) := by
      by_cases q : v2 = -1
      · exact .inl q
      · rw [ev2] at q bv2 ⊢
        exact .inr ⟨rk_nn hw (by omega) (by omega), (stp_dec hw hh (by omega) (by omega) (by omega) (by omega) q).1⟩
    refine x_istore (lv' := [(5, .int (iI (v2))), (4, .int (iI (f))), (0, .ref 0), (1, .int (iI (f))), (2, .int (iI (d))), (3, .ref 24)]) C dX12_goesOn_16 (nlt rfl) rfl ?_
    have nf := rk_nn (H := X.1 0 23) (d := d) (p := f) hw (by omega) (by omega)
    exact lq_goesOn24 (by omega) (by omega) hH hw hh C hQ (rkI (X.1 0 22) (X.1 0 23) d f + 1).toNat f v2 (by omega) (by omega) (by omega) bv2 kv2 (by omega)
  · exact x_vret C hQ dX12_goesOn_5 (⟨rfl, hH, FR.rf⟩)
set_option maxRecDepth 10000 in
theorem t_M_61 {D : va_G} {ad : Nat → Nat} {cA : Nat → ClassId} : CTR mtM vM gM (wM D ad cA) k_M_61 := by
  intro g X hpre
  obtain ⟨h00, hei, hel, hdl, hH, hE⟩ := hpre
  have h0 : (0 : Int) ≤ g.1 0 ∧ g.1 0 ≤ (0 : Int) := hei 0 _ rfl
  have h1 : (0 : Int) ≤ g.1 1 ∧ g.1 1 ≤ (35 : Int) := hei 1 _ rfl
  have h2 : (0 : Int) ≤ g.1 2 ∧ g.1 2 ≤ (4 : Int) := hei 2 _ rfl
  have h3 : (2 : Int) ≤ g.1 3 ∧ g.1 3 ≤ (6 : Int) := hei 3 _ rfl
  have h4 : (2 : Int) ≤ g.1 4 ∧ g.1 4 ≤ (6 : Int) := hei 4 _ rfl
  have e0 : X.1 0 22 = g.1 3 + 0 := (hdl ((0, 22), (0, 3, 0)) (.head _))
  have e1 : X.1 0 23 = g.1 4 + 0 := (hdl ((0, 23), (0, 4, 0)) (.tail _ (.head _)))
  refine MetX.imp (fun r X1 hp => ?_) (q_goesOn24 (X := X) (f := g.1 1 + 0) (d := g.1 2 + 0) (by omega) (by omega) (by omega) (by omega) hH ⟨by omega, by omega⟩ ⟨by omega, by omega⟩)
  obtain ⟨rfl, hH1, hF1⟩ := hp
  exact (altM_mk 0 [] rfl (ei_cons ⟨by show (0 : Int) ≤ g.1 0; omega, by show g.1 0 ≤ (0 : Int); omega⟩ (ei_cons ⟨by show (0 : Int) ≤ g.1 1; omega, by show g.1 1 ≤ (35 : Int); omega⟩ (ei_cons ⟨by show (0 : Int) ≤ g.1 2; omega, by show g.1 2 ≤ (4 : Int); omega⟩ (ei_cons ⟨by show (2 : Int) ≤ g.1 3; omega, by show g.1 3 ≤ (6 : Int); omega⟩ (ei_cons ⟨by show (2 : Int) ≤ g.1 4; omega, by show g.1 4 ≤ (6 : Int); omega⟩ ei_nil))))) el_nil (by rfl) dl_nil gd_nil hH1 (bok_fr hE hF1 rfl) hF1)
set_option maxHeartbeats 4000000 in
set_option maxRecDepth 100000 in
theorem lq_goesOn25 {D : va_G} {ad : Nat → Nat} {cA : Nat → ClassId} {X : XT} {d : Int} (d0 : 0 ≤ d) (d1 : d ≤ 3) (hH : HG vM X) (hw : 2 ≤ X.1 0 22 ∧ X.1 0 22 ≤ 6) (hh : 2 ≤ X.1 0 23 ∧ X.1 0 23 ≤ 6) {f : Int} {E : ET} (C : CX E (wM D ad cA) cX12_goesOn 6 RX12 none { frames := 3, cells := 0, slots := 0, locals := 69 }) (hQ : EQ E (wM D ad cA) (fun r X1 => r = none ∧ HG vM X1 ∧ FR (cMd k_M_79) X X1)) : ∀ (n : Nat) (p : Int) (t : Int), rkI (X.1 0 22) (X.1 0 23) d p < n → 0 ≤ p → p ≤ 35 → (t = -1 ∨ (0 ≤ t ∧ t ≤ 35)) → (t = -1 ∨ (0 ≤ rkI (X.1 0 22) (X.1 0 23) d t ∧ rkI (X.1 0 22) (X.1 0 23) d t < rkI (X.1 0 22) (X.1 0 23) d p)) → 0 ≤ rkI (X.1 0 22) (X.1 0 23) d p → Wx E (wM D ad cA) 6 (PX (wM D ad cA) X) 18 [(5, .int (iI (t))), (4, .int (iI (p))), (0, .ref 0), (1, .int (iI (f))), (2, .int (iI (d))), (3, .ref 25)] [] := by
  intro n
  induction n with
  | zero => intro p t hn p0 p1 tb tk k0; exfalso; omega
  | succ n ih =>
    intro p t hn p0 p1 tb tk k0
    have hF : FR (cMd k_M_79) X X := FR.rf
    refine x_iload C dX12_goesOn_18 rfl ?_
    refine x_iconst C dX12_goesOn_20 ?_
    refine x_icmp_eq (tgt := 63) C dX12_goesOn_21 (by decide) ⟨by omega, by omega⟩ ⟨by omega, by omega⟩ (fun h1 => ?_) (fun h1 => ?_)
    · refine x_aload_n (i := 3) C dX12_goesOn_63 rfl rfl ?_
      refine x_iload_n (i := 2) C dX12_goesOn_64 rfl rfl ?_
      refine x_dup2_11 C dX12_goesOn_65 rfl rfl ?_
      refine x_lald C (nlt rfl) rfl rfl (nle rfl) (by omega) (by omega) dX12_goesOn_66 ?_
      refine x_genL (fun l2 el2 => ?_)
      have ql2 : (0 : Int) ≤ l2.toInt ∧ l2.toInt ≤ (68719476735 : Int) := by
        rw [el2]
        exact hH.rLA (k := 25) (n := 5) (p := (0, 68719476735)) (nlt rfl) rfl (by decide +kernel) (by omega)
      refine x_lconst C dX12_goesOn_67 ?_
      refine x_eqL (b := 1) rfl ?_
      refine x_iload C dX12_goesOn_68 rfl ?_
      refine x_lshl C dX12_goesOn_70 ?_
      refine x_genL (fun l3 el3 => ?_)
      refine x_lor C dX12_goesOn_71 ?_
      refine x_genL (fun l4 el4 => ?_)
      refine x_last C (nlt rfl) rfl rfl (nle rfl) (by omega) (by omega) dX12_goesOn_72 ?_
      refine x_gX (fun Yy5 eYy5 => ?_)
      have hHy5 : HG vM Yy5 := by
        rw [eYy5]
        exact hg_wLA hH (n := 5) (p := (0, 68719476735)) (by decide +kernel) (by omega) (by rw [el4, el3]; exact m36_or ql2 (m36_bit (by omega) (by omega)))
      have hFy5 : FR (cMd k_M_79) X Yy5 := by
        rw [eYy5]
        exact FR.upL hF (rfl)
      exact x_vret C hQ dX12_goesOn_73 (⟨rfl, hHy5, hFy5⟩)
    · refine x_iload C dX12_goesOn_24 rfl ?_
      refine x_istore (lv' := [(4, .int (iI (t))), (5, .int (iI (t))), (0, .ref 0), (1, .int (iI (f))), (2, .int (iI (d))), (3, .ref 25)]) C dX12_goesOn_26 (nlt rfl) rfl ?_
      refine x_aload_n (i := 0) C dX12_goesOn_28 rfl rfl ?_
      refine x_iload C dX12_goesOn_29 rfl ?_
      refine x_callV (As := [.int (iI (t))]) C (by exact (qf_endsThere (f := t))) ckX12_325 im_X12_endsThere se_X12_endsThere (nlt rfl) rfl rfl rfl rfl (nle rfl) (by exact ⟨nle rfl, nle rfl⟩) dX12_goesOn_31 ?_
      rintro _ Xv6 ⟨hxv6, v6, rfl, ev6⟩
      rw [hxv6]
      have bv6 : 0 ≤ v6 ∧ v6 ≤ 1 := by rw [ev6]; exact zB_01 _
      refine Wx_st (st' := [.int (iI (v6))]) rfl ?_
      refine x_if_eq (tgt := 51) C dX12_goesOn_34 (by decide) ⟨by omega, by omega⟩ (fun h7 => ?_) (fun h7 => ?_)
      · refine x_aload_n (i := 0) C dX12_goesOn_51 rfl rfl ?_
        refine x_iload C dX12_goesOn_52 rfl ?_
        refine x_iload_n (i := 2) C dX12_goesOn_54 rfl rfl ?_
        refine x_callV (As := [.int (iI (t)), .int (iI (d))]) C (by exact (qf_step (p := t) (d := d) (by omega) (by omega) hw hh (by omega) (by omega))) ckX12_322 im_X12_step se_X12_step (nlt rfl) rfl rfl rfl rfl (nle rfl) (by exact ⟨nle rfl, nle rfl⟩) dX12_goesOn_55 ?_
        rintro _ Xv8 ⟨hxv8, v8, rfl, ev8⟩
        rw [hxv8]
        refine Wx_st (st' := [.int (iI (v8))]) rfl ?_
        have bv8 : v8 = -1 ∨ (0 ≤ v8 ∧ v8 ≤ 35) := by rw [ev8]; exact stp_bd hw hh
        have kv8 : v8 = -1 ∨ (0 ≤ rkI (X.1 0 22) (X.1 0 23) d v8 ∧ rkI (X.1 0 22) (X.1 0 23) d v8 < rkI (X.1 0 22) (X.1 0 23) d t) := by
          by_cases q : v8 = -1
          · exact .inl q
          · rw [ev8] at q bv8 ⊢
            exact .inr ⟨rk_nn hw (by omega) (by omega), (stp_dec hw hh (by omega) (by omega) d0 d1 q).1⟩
        refine x_istore (lv' := [(5, .int (iI (v8))), (4, .int (iI (t))), (0, .ref 0), (1, .int (iI (f))), (2, .int (iI (d))), (3, .ref 25)]) C dX12_goesOn_58 (nlt rfl) rfl ?_
        refine x_goto (tgt := 18) C dX12_goesOn_60 (by decide) ?_
        exact ih _ _ (by omega) (by omega) (by omega) bv8 kv8 (by omega)
      · refine x_aload_n (i := 0) C dX12_goesOn_37 rfl rfl ?_
        refine x_dup C dX12_goesOn_38 rfl ?_
        refine x_getL C fkM_X12_328 (nlt rfl) rfl dX12_goesOn_39 ?_
        refine x_genL (fun l9 el9 => ?_)
        have ql9 : (0 : Int) ≤ l9.toInt ∧ l9.toInt ≤ (68719476735 : Int) := by
          rw [el9]
          exact hH.rLF (k := 0) (i := 34) (p := (0, 68719476735)) rfl rfl
        refine x_lconst C dX12_goesOn_42 ?_
        refine x_eqL (b := 1) rfl ?_
        refine x_iload C dX12_goesOn_43 rfl ?_
        refine x_lshl C dX12_goesOn_45 ?_
        refine x_genL (fun l10 el10 => ?_)
        refine x_lor C dX12_goesOn_46 ?_
        refine x_genL (fun l11 el11 => ?_)
        refine x_putL C pkM_X12_328 (nlt rfl) rfl dX12_goesOn_47 ?_
        refine x_gX (fun Yy12 eYy12 => ?_)
        have hHy12 : HG vM Yy12 := by
          rw [eYy12]
          exact hg_wLF hH (p := (0, 68719476735)) rfl (by rw [el11, el10]; exact m36_or ql9 (m36_bit (by omega) (by omega)))
        have hFy12 : FR (cMd k_M_79) X Yy12 := by
          rw [eYy12]
          exact FR.upL hF (rfl)
        exact x_vret C hQ dX12_goesOn_50 (⟨rfl, hHy12, hFy12⟩)
set_option maxHeartbeats 4000000 in
set_option maxRecDepth 100000 in
theorem q_goesOn25 {D : va_G} {ad : Nat → Nat} {cA : Nat → ClassId} {X : XT} {f d : Int} (f0 : 0 ≤ f) (f1 : f ≤ 35) (d0 : 0 ≤ d) (d1 : d ≤ 4) (hH : HG vM X) (hw : 2 ≤ X.1 0 22 ∧ X.1 0 22 ≤ 6) (hh : 2 ≤ X.1 0 23 ∧ X.1 0 23 ≤ 6) : MetX (wM D ad cA) yX12_goesOn cX12_goesOn 6 none 3 69 [.ref 0, .int (iI (f)), .int (iI (d)), .ref 25] X (fun r X1 => r = none ∧ HG vM X1 ∧ FR (cMd k_M_79) X X1) := by
  refine MetX.mk (own := RX12) (by decide +kernel) rfl (nle rfl) (fun E C hQ => ?_)
  refine Wx_lv (lv' := [(0, .ref 0), (1, .int (iI (f))), (2, .int (iI (d))), (3, .ref 25)]) rfl ?_
  refine x_iload_n (i := 2) C dX12_goesOn_0 rfl rfl ?_
  refine x_iconst C dX12_goesOn_1 ?_
  refine x_icmp_ne (tgt := 6) C dX12_goesOn_2 (by decide) ⟨by omega, by omega⟩ ⟨by omega, by omega⟩ (fun h1 => ?_) (fun h1 => ?_)
  · refine x_iload_n (i := 1) C dX12_goesOn_6 rfl rfl ?_
    refine x_istore (lv' := [(4, .int (iI (f))), (0, .ref 0), (1, .int (iI (f))), (2, .int (iI (d))), (3, .ref 25)]) C dX12_goesOn_7 (nlt rfl) rfl ?_
    refine x_aload_n (i := 0) C dX12_goesOn_9 rfl rfl ?_
    refine x_iload C dX12_goesOn_10 rfl ?_
    refine x_iload_n (i := 2) C dX12_goesOn_12 rfl rfl ?_
    refine x_callV (As := [.int (iI (f)), .int (iI (d))]) C (by exact (qf_step (p := f) (d := d) (by omega) (by omega) hw hh (by omega) (by omega))) ckX12_322 im_X12_step se_X12_step (nlt rfl) rfl rfl rfl rfl (nle rfl) (by exact ⟨nle rfl, nle rfl⟩) dX12_goesOn_13 ?_
    rintro _ Xv2 ⟨hxv2, v2, rfl, ev2⟩
    rw [hxv2]
    refine Wx_st (st' := [.int (iI (v2))]) rfl ?_
    have bv2 : v2 = -1 ∨ (0 ≤ v2 ∧ v2 ≤ 35) := by rw [ev2]; exact stp_bd hw hh
    have kv2 : v2 = -1 ∨ (0 ≤ rkI (X.1 0 22) (X.1 0 23) d v2 ∧ rkI (X.1 0 22) (X.1 0 23) d v2 < rkI (X.1 0 22) (X.1 0 23) d f) := by
      by_cases q : v2 = -1
      · exact .inl q
      · rw [ev2] at q bv2 ⊢
        exact .inr ⟨rk_nn hw (by omega) (by omega), (stp_dec hw hh (by omega) (by omega) (by omega) (by omega) q).1⟩
    refine x_istore (lv' := [(5, .int (iI (v2))), (4, .int (iI (f))), (0, .ref 0), (1, .int (iI (f))), (2, .int (iI (d))), (3, .ref 25)]) C dX12_goesOn_16 (nlt rfl) rfl ?_
    have nf := rk_nn (H := X.1 0 23) (d := d) (p := f) hw (by omega) (by omega)
    exact lq_goesOn25 (by omega) (by omega) hH hw hh C hQ (rkI (X.1 0 22) (X.1 0 23) d f + 1).toNat f v2 (by omega) (by omega) (by omega) bv2 kv2 (by omega)
  · exact x_vret C hQ dX12_goesOn_5 (⟨rfl, hH, FR.rf⟩)
set_option maxRecDepth 10000 in
theorem t_M_79 {D : va_G} {ad : Nat → Nat} {cA : Nat → ClassId} : CTR mtM vM gM (wM D ad cA) k_M_79 := by
  intro g X hpre
  obtain ⟨h00, hei, hel, hdl, hH, hE⟩ := hpre
  have h0 : (0 : Int) ≤ g.1 0 ∧ g.1 0 ≤ (0 : Int) := hei 0 _ rfl
  have h1 : (0 : Int) ≤ g.1 1 ∧ g.1 1 ≤ (35 : Int) := hei 1 _ rfl
  have h2 : (0 : Int) ≤ g.1 2 ∧ g.1 2 ≤ (4 : Int) := hei 2 _ rfl
  have h3 : (2 : Int) ≤ g.1 3 ∧ g.1 3 ≤ (6 : Int) := hei 3 _ rfl
  have h4 : (2 : Int) ≤ g.1 4 ∧ g.1 4 ≤ (6 : Int) := hei 4 _ rfl
  have e0 : X.1 0 22 = g.1 3 + 0 := (hdl ((0, 22), (0, 3, 0)) (.head _))
  have e1 : X.1 0 23 = g.1 4 + 0 := (hdl ((0, 23), (0, 4, 0)) (.tail _ (.head _)))
  refine MetX.imp (fun r X1 hp => ?_) (q_goesOn25 (X := X) (f := g.1 1 + 0) (d := g.1 2 + 0) (by omega) (by omega) (by omega) (by omega) hH ⟨by omega, by omega⟩ ⟨by omega, by omega⟩)
  obtain ⟨rfl, hH1, hF1⟩ := hp
  exact (altM_mk 0 [] rfl (ei_cons ⟨by show (0 : Int) ≤ g.1 0; omega, by show g.1 0 ≤ (0 : Int); omega⟩ (ei_cons ⟨by show (0 : Int) ≤ g.1 1; omega, by show g.1 1 ≤ (35 : Int); omega⟩ (ei_cons ⟨by show (0 : Int) ≤ g.1 2; omega, by show g.1 2 ≤ (4 : Int); omega⟩ (ei_cons ⟨by show (2 : Int) ≤ g.1 3; omega, by show g.1 3 ≤ (6 : Int); omega⟩ (ei_cons ⟨by show (2 : Int) ≤ g.1 4; omega, by show g.1 4 ≤ (6 : Int); omega⟩ ei_nil))))) el_nil (by rfl) dl_nil gd_nil hH1 (bok_fr hE hF1 rfl) hF1)
set_option maxHeartbeats 4000000 in
set_option maxRecDepth 100000 in
theorem qf_isFirst {D : va_G} {ad : Nat → Nat} {cA : Nat → ClassId} {X : XT} {a b : Int} {p q : Int64} (ha : inR a) (hb : inR b) : MetX (wM D ad cA) yX12_isFirst cX12_isFirst 6 (some .boolean) 0 0 [.int (iI (a)), .long (p), .int (iI (b)), .long (q)] X (fun r X' => X' = X ∧ ∃ u : Int, r = some (.int (iI u)) ∧ 0 ≤ u ∧ u ≤ 1) := by
  unfold inR at ha hb
  refine MetX.mk (own := RX12) (by decide +kernel) rfl (nle rfl) (fun E C hQ => ?_)
  refine Wx_lv (lv' := [(0, .int (iI (a))), (1, .long (p)), (3, .int (iI (b))), (4, .long (q))]) rfl ?_
  refine x_iload_n (i := 0) C dX12_isFirst_0 rfl rfl ?_
  refine x_iload_n (i := 3) C dX12_isFirst_1 rfl rfl ?_
  refine x_icmp_lt (tgt := 17) C dX12_isFirst_2 (by decide) ⟨by omega, by omega⟩ ⟨by omega, by omega⟩ (fun h1 => ?_) (fun h1 => ?_)
  · refine x_iconst C dX12_isFirst_17 ?_
    refine x_goto (tgt := 22) C dX12_isFirst_18 (by decide) ?_
    exact x_zret C hQ (by omega) dX12_isFirst_22 (⟨rfl, _, rfl, by omega, by omega⟩)
  · refine x_iload_n (i := 0) C dX12_isFirst_5 rfl rfl ?_
    refine x_iload_n (i := 3) C dX12_isFirst_6 rfl rfl ?_
    refine x_icmp_ne (tgt := 21) C dX12_isFirst_7 (by decide) ⟨by omega, by omega⟩ ⟨by omega, by omega⟩ (fun h2 => ?_) (fun h2 => ?_)
    · refine x_iconst C dX12_isFirst_21 ?_
      exact x_zret C hQ (by omega) dX12_isFirst_22 (⟨rfl, _, rfl, by omega, by omega⟩)
    · refine x_lload_n (i := 1) C dX12_isFirst_10 rfl rfl ?_
      refine x_lload C dX12_isFirst_11 rfl ?_
      refine x_lcmp C dX12_isFirst_13 ?_
      refine x_topi (fun v3 rv3 ev3 => ?_)
      have cv3 := lcmp_iff rv3 ev3
      unfold inR at rv3
      refine x_if_ge (tgt := 21) C dX12_isFirst_14 (by decide) ⟨by omega, by omega⟩ (fun h4 => ?_) (fun h4 => ?_)
      · refine x_iconst C dX12_isFirst_21 ?_
        exact x_zret C hQ (by omega) dX12_isFirst_22 (⟨rfl, _, rfl, by omega, by omega⟩)
      · refine x_iconst C dX12_isFirst_17 ?_
        refine x_goto (tgt := 22) C dX12_isFirst_18 (by decide) ?_
        exact x_zret C hQ (by omega) dX12_isFirst_22 (⟨rfl, _, rfl, by omega, by omega⟩)
set_option maxHeartbeats 4000000 in
set_option maxRecDepth 100000 in
theorem qf_comesTo {D : va_G} {ad : Nat → Nat} {cA : Nat → ClassId} {X : XT} {f d c m K J : Int} {p : Int64} (f0 : 0 ≤ f) (f1 : f ≤ 35) (d0 : 0 ≤ d) (d1 : d ≤ 4) (m0 : 0 ≤ m) (m1 : m ≤ K) (K1 : K ≤ 1000) (hH : HG vM X) (hF : FR mdCT X X) (hP : PTH K J X) : MetX (wM D ad cA) yX12_comesTo cX12_comesTo 8 none 1 25 [.ref 0, .int (iI (f)), .int (iI (d)), .int (iI (c)), .int (iI (m)), .long (p)] X (fun r X1 => r = none ∧ HG vM X1 ∧ FR mdCT X X1 ∧ PTH K J X1) := by
  refine MetX.mk (own := RX12) (by decide +kernel) rfl (nle rfl) (fun E C hQ => ?_)
  refine Wx_lv (lv' := [(0, .ref 0), (1, .int (iI (f))), (2, .int (iI (d))), (3, .int (iI (c))), (4, .int (iI (m))), (5, .long (p))]) rfl ?_
  refine x_bipush C dX12_comesTo_0 (by decide) ?_
  refine x_iload_n (i := 2) C dX12_comesTo_2 rfl rfl ?_
  refine x_imul C dX12_comesTo_3 ?_
  refine x_iload_n (i := 1) C dX12_comesTo_4 rfl rfl ?_
  refine x_iadd C dX12_comesTo_5 ?_
  refine x_gen (fun v1 ev1 => ?_)
  refine x_istore (lv' := [(7, .int (iI (v1))), (0, .ref 0), (1, .int (iI (f))), (2, .int (iI (d))), (3, .int (iI (c))), (4, .int (iI (m))), (5, .long (p))]) C dX12_comesTo_6 (nlt rfl) rfl ?_
  refine x_aload_n (i := 0) C dX12_comesTo_8 rfl rfl ?_
  refine x_getRs (r := 27) C fkM_X12_90 (nlt rfl) rfl (HG.rR hH (k := 0) (i := 48) rfl rfl) dX12_comesTo_9 ?_
  refine x_iload C dX12_comesTo_12 rfl ?_
  refine x_iald C (nlt rfl) rfl rfl (nle rfl) (by omega) (by omega) dX12_comesTo_14 ?_
  refine x_gen (fun v2 ev2 => ?_)
  have qv2 : ((-2147483648) : Int) ≤ v2 ∧ v2 ≤ (2147483647 : Int) := by
    rw [ev2]
    exact hH.rA (k := 27) (n := 180) (p := ((-2147483648), 2147483647)) (nlt rfl) rfl (by decide +kernel) (by omega)
  refine x_if_eq (tgt := 42) C dX12_comesTo_15 (by decide) ⟨by omega, by omega⟩ (fun h3 => ?_) (fun h3 => ?_)
  · refine x_aload_n (i := 0) C dX12_comesTo_42 rfl rfl ?_
    refine x_getRs (r := 30) C fkM_X12_99 (nlt rfl) rfl (HG.rR hH (k := 0) (i := 51) rfl rfl) dX12_comesTo_43 ?_
    refine x_iload C dX12_comesTo_46 rfl ?_
    refine x_iload C dX12_comesTo_48 rfl ?_
    refine x_iast C (nlt rfl) rfl rfl (nle rfl) (by omega) (by omega) dX12_comesTo_50 ?_
    refine x_gX (fun Yy4 eYy4 => ?_)
    have hHy4 : HG vM Yy4 := by
      rw [eYy4]
      exact hg_wA hH (n := 180) (p := (0, 1000)) (by decide +kernel) (by omega) ⟨by omega, by omega⟩
    have hFy4 : FR mdCT X Yy4 := by
      rw [eYy4]
      exact FR.upI hF (rfl)
    refine x_aload_n (i := 0) C dX12_comesTo_51 rfl rfl ?_
    refine x_getRs (r := 33) C fkM_X12_108 (nlt rfl) rfl (HG.rR hHy4 (k := 0) (i := 54) rfl rfl) dX12_comesTo_52 ?_
    refine x_iload C dX12_comesTo_55 rfl ?_
    refine x_lload C dX12_comesTo_57 rfl ?_
    refine x_last C (nlt rfl) rfl rfl (nle rfl) (by omega) (by omega) dX12_comesTo_59 ?_
    refine x_gX (fun Yy5 eYy5 => ?_)
    have hHy5 : HG vM Yy5 := by
      rw [eYy5]
      exact hg_wLA hHy4 (n := 180) (p := ((-9223372036854775808), 9223372036854775807)) (by decide +kernel) (by omega) (l64 _)
    have hFy5 : FR mdCT X Yy5 := by
      rw [eYy5]
      exact FR.upL hFy4 (rfl)
    refine x_aload_n (i := 0) C dX12_comesTo_60 rfl rfl ?_
    refine x_getRs (r := 27) C fkM_X12_90 (nlt rfl) rfl (HG.rR hHy5 (k := 0) (i := 48) rfl rfl) dX12_comesTo_61 ?_
    refine x_iload C dX12_comesTo_64 rfl ?_
    refine x_dup2_11 C dX12_comesTo_66 rfl rfl ?_
    refine x_iald C (nlt rfl) rfl rfl (nle rfl) (by omega) (by omega) dX12_comesTo_67 ?_
    refine x_gen (fun v6 ev6 => ?_)
    have qv6 : ((-2147483648) : Int) ≤ v6 ∧ v6 ≤ (2147483647 : Int) := by
      rw [ev6]
      exact hHy5.rA (k := 27) (n := 180) (p := ((-2147483648), 2147483647)) (nlt rfl) rfl (by decide +kernel) (by omega)
    refine x_iload_n (i := 3) C dX12_comesTo_68 rfl rfl ?_
    refine x_iadd C dX12_comesTo_69 ?_
    refine x_topi (fun v7 rv7 ev7 => ?_)
    unfold inR at rv7
    refine x_iast C (nlt rfl) rfl rfl (nle rfl) (by omega) (by omega) dX12_comesTo_70 ?_
    refine x_gX (fun Yy8 eYy8 => ?_)
    have hHy8 : HG vM Yy8 := by
      rw [eYy8]
      exact hg_wA hHy5 (n := 180) (p := ((-2147483648), 2147483647)) (by decide +kernel) (by omega) ⟨by omega, by omega⟩
    have hFy8 : FR mdCT X Yy8 := by
      rw [eYy8]
      exact FR.upI hFy5 (rfl)
    exact x_vret C hQ dX12_comesTo_71 (⟨rfl, hHy8, hFy8, hP.ct (z := (v1).toNat) hFy8 (fun k hk => ⟨by rw [eYy8, upI_ne hk, eYy5, upL_1, eYy4, upI_nc (by decide)], by rw [eYy8, upI_nc (by decide), eYy5, upL_1, eYy4, upI_ne hk]⟩) (by rw [eYy8, upI_nc (by decide), eYy5, upL_1, eYy4, upI_at]; omega)⟩)
  · refine x_iload C dX12_comesTo_18 rfl ?_
    refine x_lload C dX12_comesTo_20 rfl ?_
    refine x_aload_n (i := 0) C dX12_comesTo_22 rfl rfl ?_
    refine x_getRs (r := 30) C fkM_X12_99 (nlt rfl) rfl (HG.rR hH (k := 0) (i := 51) rfl rfl) dX12_comesTo_23 ?_
    refine x_iload C dX12_comesTo_26 rfl ?_
    refine x_iald C (nlt rfl) rfl rfl (nle rfl) (by omega) (by omega) dX12_comesTo_28 ?_
    refine x_gen (fun v9 ev9 => ?_)
    have qv9 : (0 : Int) ≤ v9 ∧ v9 ≤ (1000 : Int) := by
      rw [ev9]
      exact hH.rA (k := 30) (n := 180) (p := (0, 1000)) (nlt rfl) rfl (by decide +kernel) (by omega)
    refine x_aload_n (i := 0) C dX12_comesTo_29 rfl rfl ?_
    refine x_getRs (r := 33) C fkM_X12_108 (nlt rfl) rfl (HG.rR hH (k := 0) (i := 54) rfl rfl) dX12_comesTo_30 ?_
    refine x_iload C dX12_comesTo_33 rfl ?_
    refine x_lald C (nlt rfl) rfl rfl (nle rfl) (by omega) (by omega) dX12_comesTo_35 ?_
    refine x_genL (fun l10 el10 => ?_)
    refine x_callS (As := [.int (iI (m)), .long (p), .int (iI (v9)), .long (l10)]) C (by exact (qf_isFirst (a := m) (p := p) (b := v9) (q := l10) ⟨by omega, by omega⟩ ⟨by omega, by omega⟩)) ckX12_397 sm_X12_isFirst rfl rfl (nle rfl) (by exact ⟨nle rfl, nle rfl⟩) dX12_comesTo_36 ?_
    rintro _ Xv11 ⟨hxv11, v11, rfl, ev11, bv11⟩
    rw [hxv11]
    refine Wx_st (st' := [.int (iI (v11))]) rfl ?_
    refine x_if_eq (tgt := 60) C dX12_comesTo_39 (by decide) ⟨by omega, by omega⟩ (fun h12 => ?_) (fun h12 => ?_)
    · refine x_aload_n (i := 0) C dX12_comesTo_60 rfl rfl ?_
      refine x_getRs (r := 27) C fkM_X12_90 (nlt rfl) rfl (HG.rR hH (k := 0) (i := 48) rfl rfl) dX12_comesTo_61 ?_
      refine x_iload C dX12_comesTo_64 rfl ?_
      refine x_dup2_11 C dX12_comesTo_66 rfl rfl ?_
      refine x_iald C (nlt rfl) rfl rfl (nle rfl) (by omega) (by omega) dX12_comesTo_67 ?_
      refine x_gen (fun v13 ev13 => ?_)
      have qv13 : ((-2147483648) : Int) ≤ v13 ∧ v13 ≤ (2147483647 : Int) := by
        rw [ev13]
        exact hH.rA (k := 27) (n := 180) (p := ((-2147483648), 2147483647)) (nlt rfl) rfl (by decide +kernel) (by omega)
      refine x_iload_n (i := 3) C dX12_comesTo_68 rfl rfl ?_
      refine x_iadd C dX12_comesTo_69 ?_
      refine x_topi (fun v14 rv14 ev14 => ?_)
      unfold inR at rv14
      refine x_iast C (nlt rfl) rfl rfl (nle rfl) (by omega) (by omega) dX12_comesTo_70 ?_
      refine x_gX (fun Yy15 eYy15 => ?_)
      have hHy15 : HG vM Yy15 := by
        rw [eYy15]
        exact hg_wA hH (n := 180) (p := ((-2147483648), 2147483647)) (by decide +kernel) (by omega) ⟨by omega, by omega⟩
      have hFy15 : FR mdCT X Yy15 := by
        rw [eYy15]
        exact FR.upI hF (rfl)
      exact x_vret C hQ dX12_comesTo_71 (⟨rfl, hHy15, hFy15, hP.ct (z := (v1).toNat) hFy15 (fun k hk => ⟨by rw [eYy15, upI_ne hk], by rw [eYy15, upI_nc (by decide)]⟩) (by rw [eYy15, upI_nc (by decide)]; exact hP.1 _ (by omega) (by rw [← ev2]; omega))⟩)
    · refine x_aload_n (i := 0) C dX12_comesTo_42 rfl rfl ?_
      refine x_getRs (r := 30) C fkM_X12_99 (nlt rfl) rfl (HG.rR hH (k := 0) (i := 51) rfl rfl) dX12_comesTo_43 ?_
      refine x_iload C dX12_comesTo_46 rfl ?_
      refine x_iload C dX12_comesTo_48 rfl ?_
      refine x_iast C (nlt rfl) rfl rfl (nle rfl) (by omega) (by omega) dX12_comesTo_50 ?_
      refine x_gX (fun Yy16 eYy16 => ?_)
      have hHy16 : HG vM Yy16 := by
        rw [eYy16]
        exact hg_wA hH (n := 180) (p := (0, 1000)) (by decide +kernel) (by omega) ⟨by omega, by omega⟩
      have hFy16 : FR mdCT X Yy16 := by
        rw [eYy16]
        exact FR.upI hF (rfl)
      refine x_aload_n (i := 0) C dX12_comesTo_51 rfl rfl ?_
      refine x_getRs (r := 33) C fkM_X12_108 (nlt rfl) rfl (HG.rR hHy16 (k := 0) (i := 54) rfl rfl) dX12_comesTo_52 ?_
      refine x_iload C dX12_comesTo_55 rfl ?_
      refine x_lload C dX12_comesTo_57 rfl ?_
      refine x_last C (nlt rfl) rfl rfl (nle rfl) (by omega) (by omega) dX12_comesTo_59 ?_
      refine x_gX (fun Yy17 eYy17 => ?_)
      have hHy17 : HG vM Yy17 := by
        rw [eYy17]
        exact hg_wLA hHy16 (n := 180) (p := ((-9223372036854775808), 9223372036854775807)) (by decide +kernel) (by omega) (l64 _)
      have hFy17 : FR mdCT X Yy17 := by
        rw [eYy17]
        exact FR.upL hFy16 (rfl)
      refine x_aload_n (i := 0) C dX12_comesTo_60 rfl rfl ?_
      refine x_getRs (r := 27) C fkM_X12_90 (nlt rfl) rfl (HG.rR hHy17 (k := 0) (i := 48) rfl rfl) dX12_comesTo_61 ?_
      refine x_iload C dX12_comesTo_64 rfl ?_
      refine x_dup2_11 C dX12_comesTo_66 rfl rfl ?_
      refine x_iald C (nlt rfl) rfl rfl (nle rfl) (by omega) (by omega) dX12_comesTo_67 ?_
      refine x_gen (fun v18 ev18 => ?_)
      have qv18 : ((-2147483648) : Int) ≤ v18 ∧ v18 ≤ (2147483647 : Int) := by
        rw [ev18]
        exact hHy17.rA (k := 27) (n := 180) (p := ((-2147483648), 2147483647)) (nlt rfl) rfl (by decide +kernel) (by omega)
      refine x_iload_n (i := 3) C dX12_comesTo_68 rfl rfl ?_
      refine x_iadd C dX12_comesTo_69 ?_
      refine x_topi (fun v19 rv19 ev19 => ?_)
      unfold inR at rv19
      refine x_iast C (nlt rfl) rfl rfl (nle rfl) (by omega) (by omega) dX12_comesTo_70 ?_
      refine x_gX (fun Yy20 eYy20 => ?_)
      have hHy20 : HG vM Yy20 := by
        rw [eYy20]
        exact hg_wA hHy17 (n := 180) (p := ((-2147483648), 2147483647)) (by decide +kernel) (by omega) ⟨by omega, by omega⟩
      have hFy20 : FR mdCT X Yy20 := by
        rw [eYy20]
        exact FR.upI hFy17 (rfl)
      exact x_vret C hQ dX12_comesTo_71 (⟨rfl, hHy20, hFy20, hP.ct (z := (v1).toNat) hFy20 (fun k hk => ⟨by rw [eYy20, upI_ne hk, eYy17, upL_1, eYy16, upI_nc (by decide)], by rw [eYy20, upI_nc (by decide), eYy17, upL_1, eYy16, upI_ne hk]⟩) (by rw [eYy20, upI_nc (by decide), eYy17, upL_1, eYy16, upI_at]; omega)⟩)
set_option maxHeartbeats 4000000 in
set_option maxRecDepth 100000 in
theorem qf_endsAt {D : va_G} {ad : Nat → Nat} {cA : Nat → ClassId} {X : XT} {f c m K J : Int} {p : Int64} (f0 : 0 ≤ f) (f1 : f ≤ 35) (m0 : 0 ≤ m) (m1 : m ≤ 1000) (hH : HG vM X) (hF : FR mdEC X X) (hP : PTH K J X) : MetX (wM D ad cA) yX12_endsAt cX12_endsAt 6 none 1 25 [.ref 0, .int (iI (f)), .int (iI (c)), .int (iI (m)), .long (p)] X (fun r X1 => r = none ∧ HG vM X1 ∧ FR mdEC X X1 ∧ PTH K J X1) := by
  refine MetX.mk (own := RX12) (by decide +kernel) rfl (nle rfl) (fun E C hQ => ?_)
  refine Wx_lv (lv' := [(0, .ref 0), (1, .int (iI (f))), (2, .int (iI (c))), (3, .int (iI (m))), (4, .long (p))]) rfl ?_
  refine x_aload_n (i := 0) C dX12_endsAt_0 rfl rfl ?_
  refine x_getRs (r := 35) C fkM_X12_114 (nlt rfl) rfl (HG.rR hH (k := 0) (i := 56) rfl rfl) dX12_endsAt_1 ?_
  refine x_iload_n (i := 1) C dX12_endsAt_4 rfl rfl ?_
  refine x_iald C (nlt rfl) rfl rfl (nle rfl) (by omega) (by omega) dX12_endsAt_5 ?_
  refine x_gen (fun v1 ev1 => ?_)
  have qv1 : ((-2147483648) : Int) ≤ v1 ∧ v1 ≤ (2147483647 : Int) := by
    rw [ev1]
    exact hH.rA (k := 35) (n := 36) (p := ((-2147483648), 2147483647)) (nlt rfl) rfl (by decide +kernel) (by omega)
  refine x_if_eq (tgt := 30) C dX12_endsAt_6 (by decide) ⟨by omega, by omega⟩ (fun h2 => ?_) (fun h2 => ?_)
  · refine x_aload_n (i := 0) C dX12_endsAt_30 rfl rfl ?_
    refine x_getRs (r := 36) C fkM_X12_117 (nlt rfl) rfl (HG.rR hH (k := 0) (i := 57) rfl rfl) dX12_endsAt_31 ?_
    refine x_iload_n (i := 1) C dX12_endsAt_34 rfl rfl ?_
    refine x_iload_n (i := 3) C dX12_endsAt_35 rfl rfl ?_
    refine x_iast C (nlt rfl) rfl rfl (nle rfl) (by omega) (by omega) dX12_endsAt_36 ?_
    refine x_gX (fun Yy3 eYy3 => ?_)
    have hHy3 : HG vM Yy3 := by
      rw [eYy3]
      exact hg_wA hH (n := 36) (p := (0, 1000)) (by decide +kernel) (by omega) ⟨by omega, by omega⟩
    have hFy3 : FR mdEC X Yy3 := by
      rw [eYy3]
      exact FR.upI hF (rfl)
    refine x_aload_n (i := 0) C dX12_endsAt_37 rfl rfl ?_
    refine x_getRs (r := 37) C fkM_X12_120 (nlt rfl) rfl (HG.rR hHy3 (k := 0) (i := 58) rfl rfl) dX12_endsAt_38 ?_
    refine x_iload_n (i := 1) C dX12_endsAt_41 rfl rfl ?_
    refine x_lload C dX12_endsAt_42 rfl ?_
    refine x_last C (nlt rfl) rfl rfl (nle rfl) (by omega) (by omega) dX12_endsAt_44 ?_
    refine x_gX (fun Yy4 eYy4 => ?_)
    have hHy4 : HG vM Yy4 := by
      rw [eYy4]
      exact hg_wLA hHy3 (n := 36) (p := ((-9223372036854775808), 9223372036854775807)) (by decide +kernel) (by omega) (l64 _)
    have hFy4 : FR mdEC X Yy4 := by
      rw [eYy4]
      exact FR.upL hFy3 (rfl)
    refine x_aload_n (i := 0) C dX12_endsAt_45 rfl rfl ?_
    refine x_getRs (r := 35) C fkM_X12_114 (nlt rfl) rfl (HG.rR hHy4 (k := 0) (i := 56) rfl rfl) dX12_endsAt_46 ?_
    refine x_iload_n (i := 1) C dX12_endsAt_49 rfl rfl ?_
    refine x_dup2_11 C dX12_endsAt_50 rfl rfl ?_
    refine x_iald C (nlt rfl) rfl rfl (nle rfl) (by omega) (by omega) dX12_endsAt_51 ?_
    refine x_gen (fun v5 ev5 => ?_)
    have qv5 : ((-2147483648) : Int) ≤ v5 ∧ v5 ≤ (2147483647 : Int) := by
      rw [ev5]
      exact hHy4.rA (k := 35) (n := 36) (p := ((-2147483648), 2147483647)) (nlt rfl) rfl (by decide +kernel) (by omega)
    refine x_iload_n (i := 2) C dX12_endsAt_52 rfl rfl ?_
    refine x_iadd C dX12_endsAt_53 ?_
    refine x_topi (fun v6 rv6 ev6 => ?_)
    unfold inR at rv6
    refine x_iast C (nlt rfl) rfl rfl (nle rfl) (by omega) (by omega) dX12_endsAt_54 ?_
    refine x_gX (fun Yy7 eYy7 => ?_)
    have hHy7 : HG vM Yy7 := by
      rw [eYy7]
      exact hg_wA hHy4 (n := 36) (p := ((-2147483648), 2147483647)) (by decide +kernel) (by omega) ⟨by omega, by omega⟩
    have hFy7 : FR mdEC X Yy7 := by
      rw [eYy7]
      exact FR.upI hFy4 (rfl)
    exact x_vret C hQ dX12_endsAt_55 (⟨rfl, hHy7, hFy7, hP.ec hFy7⟩)
  · refine x_iload_n (i := 3) C dX12_endsAt_9 rfl rfl ?_
    refine x_lload C dX12_endsAt_10 rfl ?_
    refine x_aload_n (i := 0) C dX12_endsAt_12 rfl rfl ?_
    refine x_getRs (r := 36) C fkM_X12_117 (nlt rfl) rfl (HG.rR hH (k := 0) (i := 57) rfl rfl) dX12_endsAt_13 ?_
    refine x_iload_n (i := 1) C dX12_endsAt_16 rfl rfl ?_
    refine x_iald C (nlt rfl) rfl rfl (nle rfl) (by omega) (by omega) dX12_endsAt_17 ?_
    refine x_gen (fun v8 ev8 => ?_)
    have qv8 : (0 : Int) ≤ v8 ∧ v8 ≤ (1000 : Int) := by
      rw [ev8]
      exact hH.rA (k := 36) (n := 36) (p := (0, 1000)) (nlt rfl) rfl (by decide +kernel) (by omega)
    refine x_aload_n (i := 0) C dX12_endsAt_18 rfl rfl ?_
    refine x_getRs (r := 37) C fkM_X12_120 (nlt rfl) rfl (HG.rR hH (k := 0) (i := 58) rfl rfl) dX12_endsAt_19 ?_
    refine x_iload_n (i := 1) C dX12_endsAt_22 rfl rfl ?_
    refine x_lald C (nlt rfl) rfl rfl (nle rfl) (by omega) (by omega) dX12_endsAt_23 ?_
    refine x_genL (fun l9 el9 => ?_)
    refine x_callS (As := [.int (iI (m)), .long (p), .int (iI (v8)), .long (l9)]) C (by exact (qf_isFirst (a := m) (p := p) (b := v8) (q := l9) ⟨by omega, by omega⟩ ⟨by omega, by omega⟩)) ckX12_397 sm_X12_isFirst rfl rfl (nle rfl) (by exact ⟨nle rfl, nle rfl⟩) dX12_endsAt_24 ?_
    rintro _ Xv10 ⟨hxv10, v10, rfl, ev10, bv10⟩
    rw [hxv10]
    refine Wx_st (st' := [.int (iI (v10))]) rfl ?_
    refine x_if_eq (tgt := 45) C dX12_endsAt_27 (by decide) ⟨by omega, by omega⟩ (fun h11 => ?_) (fun h11 => ?_)
    · refine x_aload_n (i := 0) C dX12_endsAt_45 rfl rfl ?_
      refine x_getRs (r := 35) C fkM_X12_114 (nlt rfl) rfl (HG.rR hH (k := 0) (i := 56) rfl rfl) dX12_endsAt_46 ?_
      refine x_iload_n (i := 1) C dX12_endsAt_49 rfl rfl ?_
      refine x_dup2_11 C dX12_endsAt_50 rfl rfl ?_
      refine x_iald C (nlt rfl) rfl rfl (nle rfl) (by omega) (by omega) dX12_endsAt_51 ?_
      refine x_gen (fun v12 ev12 => ?_)
      have qv12 : ((-2147483648) : Int) ≤ v12 ∧ v12 ≤ (2147483647 : Int) := by
        rw [ev12]
        exact hH.rA (k := 35) (n := 36) (p := ((-2147483648), 2147483647)) (nlt rfl) rfl (by decide +kernel) (by omega)
      refine x_iload_n (i := 2) C dX12_endsAt_52 rfl rfl ?_
      refine x_iadd C dX12_endsAt_53 ?_
      refine x_topi (fun v13 rv13 ev13 => ?_)
      unfold inR at rv13
      refine x_iast C (nlt rfl) rfl rfl (nle rfl) (by omega) (by omega) dX12_endsAt_54 ?_
      refine x_gX (fun Yy14 eYy14 => ?_)
      have hHy14 : HG vM Yy14 := by
        rw [eYy14]
        exact hg_wA hH (n := 36) (p := ((-2147483648), 2147483647)) (by decide +kernel) (by omega) ⟨by omega, by omega⟩
      have hFy14 : FR mdEC X Yy14 := by
        rw [eYy14]
        exact FR.upI hF (rfl)
      exact x_vret C hQ dX12_endsAt_55 (⟨rfl, hHy14, hFy14, hP.ec hFy14⟩)
    · refine x_aload_n (i := 0) C dX12_endsAt_30 rfl rfl ?_
      refine x_getRs (r := 36) C fkM_X12_117 (nlt rfl) rfl (HG.rR hH (k := 0) (i := 57) rfl rfl) dX12_endsAt_31 ?_
      refine x_iload_n (i := 1) C dX12_endsAt_34 rfl rfl ?_
      refine x_iload_n (i := 3) C dX12_endsAt_35 rfl rfl ?_
      refine x_iast C (nlt rfl) rfl rfl (nle rfl) (by omega) (by omega) dX12_endsAt_36 ?_
      refine x_gX (fun Yy15 eYy15 => ?_)
      have hHy15 : HG vM Yy15 := by
        rw [eYy15]
        exact hg_wA hH (n := 36) (p := (0, 1000)) (by decide +kernel) (by omega) ⟨by omega, by omega⟩
      have hFy15 : FR mdEC X Yy15 := by
        rw [eYy15]
        exact FR.upI hF (rfl)
      refine x_aload_n (i := 0) C dX12_endsAt_37 rfl rfl ?_
      refine x_getRs (r := 37) C fkM_X12_120 (nlt rfl) rfl (HG.rR hHy15 (k := 0) (i := 58) rfl rfl) dX12_endsAt_38 ?_
      refine x_iload_n (i := 1) C dX12_endsAt_41 rfl rfl ?_
      refine x_lload C dX12_endsAt_42 rfl ?_
      refine x_last C (nlt rfl) rfl rfl (nle rfl) (by omega) (by omega) dX12_endsAt_44 ?_
      refine x_gX (fun Yy16 eYy16 => ?_)
      have hHy16 : HG vM Yy16 := by
        rw [eYy16]
        exact hg_wLA hHy15 (n := 36) (p := ((-9223372036854775808), 9223372036854775807)) (by decide +kernel) (by omega) (l64 _)
      have hFy16 : FR mdEC X Yy16 := by
        rw [eYy16]
        exact FR.upL hFy15 (rfl)
      refine x_aload_n (i := 0) C dX12_endsAt_45 rfl rfl ?_
      refine x_getRs (r := 35) C fkM_X12_114 (nlt rfl) rfl (HG.rR hHy16 (k := 0) (i := 56) rfl rfl) dX12_endsAt_46 ?_
      refine x_iload_n (i := 1) C dX12_endsAt_49 rfl rfl ?_
      refine x_dup2_11 C dX12_endsAt_50 rfl rfl ?_
      refine x_iald C (nlt rfl) rfl rfl (nle rfl) (by omega) (by omega) dX12_endsAt_51 ?_
      refine x_gen (fun v17 ev17 => ?_)
      have qv17 : ((-2147483648) : Int) ≤ v17 ∧ v17 ≤ (2147483647 : Int) := by
        rw [ev17]
        exact hHy16.rA (k := 35) (n := 36) (p := ((-2147483648), 2147483647)) (nlt rfl) rfl (by decide +kernel) (by omega)
      refine x_iload_n (i := 2) C dX12_endsAt_52 rfl rfl ?_
      refine x_iadd C dX12_endsAt_53 ?_
      refine x_topi (fun v18 rv18 ev18 => ?_)
      unfold inR at rv18
      refine x_iast C (nlt rfl) rfl rfl (nle rfl) (by omega) (by omega) dX12_endsAt_54 ?_
      refine x_gX (fun Yy19 eYy19 => ?_)
      have hHy19 : HG vM Yy19 := by
        rw [eYy19]
        exact hg_wA hHy16 (n := 36) (p := ((-2147483648), 2147483647)) (by decide +kernel) (by omega) ⟨by omega, by omega⟩
      have hFy19 : FR mdEC X Yy19 := by
        rw [eYy19]
        exact FR.upI hFy16 (rfl)
      exact x_vret C hQ dX12_endsAt_55 (⟨rfl, hHy19, hFy19, hP.ec hFy19⟩)
set_option maxHeartbeats 4000000 in
set_option maxRecDepth 100000 in
theorem qf_goesTo {D : va_G} {ad : Nat → Nat} {cA : Nat → ClassId} {X : XT} {t d c m : Int} {p : Int64} {K J : Int} (K1 : K ≤ 1000) (t0 : -1 ≤ t) (t1 : t ≤ 35) (d0 : 0 ≤ d) (d1 : d ≤ 4) (m0 : 0 ≤ m) (m1 : m ≤ K) (hH : HG vM X) (hF : FR mdPT X X) (hP : PTH K J X) : MetX (wM D ad cA) yX12_goesTo cX12_goesTo 7 (some .boolean) 2 52 [.ref 0, .int (iI (t)), .int (iI (d)), .int (iI (c)), .int (iI (m)), .long (p)] X (fun r X1 => ∃ u : Int, r = some (.int (iI u)) ∧ 0 ≤ u ∧ u ≤ 1 ∧ HG vM X1 ∧ FR mdPT X X1 ∧ PTH K J X1) := by
  refine MetX.mk (own := RX12) (by decide +kernel) rfl (nle rfl) (fun E C hQ => ?_)
  refine Wx_lv (lv' := [(0, .ref 0), (1, .int (iI (t))), (2, .int (iI (d))), (3, .int (iI (c))), (4, .int (iI (m))), (5, .long (p))]) rfl ?_
  refine x_iload_n (i := 1) C dX12_goesTo_0 rfl rfl ?_
  refine x_iconst C dX12_goesTo_1 ?_
  refine x_icmp_ne (tgt := 7) C dX12_goesTo_2 (by decide) ⟨by omega, by omega⟩ ⟨by omega, by omega⟩ (fun h1 => ?_) (fun h1 => ?_)
  · refine x_aload_n (i := 0) C dX12_goesTo_7 rfl rfl ?_
    refine x_iload_n (i := 1) C dX12_goesTo_8 rfl rfl ?_
    refine x_callV (As := [.int (iI (t))]) C (by exact (qf_endsThere (f := t))) ckX12_325 im_X12_endsThere se_X12_endsThere (nlt rfl) rfl rfl rfl rfl (nle rfl) (by exact ⟨nle rfl, nle rfl⟩) dX12_goesTo_9 ?_
    rintro _ Xv2 ⟨hxv2, v2, rfl, ev2⟩
    rw [hxv2]
    have bv2 : 0 ≤ v2 ∧ v2 ≤ 1 := by rw [ev2]; exact zB_01 _
    refine Wx_st (st' := [.int (iI (v2))]) rfl ?_
    refine x_if_eq (tgt := 28) C dX12_goesTo_12 (by decide) ⟨by omega, by omega⟩ (fun h3 => ?_) (fun h3 => ?_)
    · refine x_aload_n (i := 0) C dX12_goesTo_28 rfl rfl ?_
      refine x_iload_n (i := 1) C dX12_goesTo_29 rfl rfl ?_
      refine x_iload_n (i := 2) C dX12_goesTo_30 rfl rfl ?_
      refine x_iload_n (i := 3) C dX12_goesTo_31 rfl rfl ?_
      refine x_iload C dX12_goesTo_32 rfl ?_
      refine x_lload C dX12_goesTo_34 rfl ?_
      refine x_callV (As := [.int (iI (t)), .int (iI (d)), .int (iI (c)), .int (iI (m)), .long (p)]) C (by exact (qf_comesTo (f := t) (d := d) (c := c) (m := m) (p := p) (by omega) (by omega) (by omega) (by omega) (by omega) (by omega) K1 hH FR.rf hP)) ckX12_405 im_X12_comesTo se_X12_comesTo (nlt rfl) rfl rfl rfl rfl (nle rfl) (by exact ⟨nle rfl, nle rfl⟩) dX12_goesTo_36 ?_
      rintro _ Yy4 ⟨rfl, hHy4, hGy4, hPy4⟩
      have hFy4 : FR mdPT X Yy4 := FR.tr hF hGy4 (by decide)
      refine Wx_st (st' := []) rfl ?_
      refine x_iconst C dX12_goesTo_39 ?_
      exact x_zret C hQ (by omega) dX12_goesTo_40 (⟨_, rfl, by omega, by omega, hHy4, hFy4, hPy4⟩)
    · refine x_aload_n (i := 0) C dX12_goesTo_15 rfl rfl ?_
      refine x_iload_n (i := 1) C dX12_goesTo_16 rfl rfl ?_
      refine x_iload_n (i := 3) C dX12_goesTo_17 rfl rfl ?_
      refine x_iload C dX12_goesTo_18 rfl ?_
      refine x_lload C dX12_goesTo_20 rfl ?_
      refine x_callV (As := [.int (iI (t)), .int (iI (c)), .int (iI (m)), .long (p)]) C (by exact (qf_endsAt (f := t) (c := c) (m := m) (p := p) (by omega) (by omega) (by omega) (by omega) hH FR.rf hP)) ckX12_401 im_X12_endsAt se_X12_endsAt (nlt rfl) rfl rfl rfl rfl (nle rfl) (by exact ⟨nle rfl, nle rfl⟩) dX12_goesTo_22 ?_
      rintro _ Yy5 ⟨rfl, hHy5, hGy5, hPy5⟩
      have hFy5 : FR mdPT X Yy5 := FR.tr hF hGy5 (by decide)
      refine Wx_st (st' := []) rfl ?_
      refine x_goto (tgt := 39) C dX12_goesTo_25 (by decide) ?_
      refine x_iconst C dX12_goesTo_39 ?_
      exact x_zret C hQ (by omega) dX12_goesTo_40 (⟨_, rfl, by omega, by omega, hHy5, hFy5, hPy5⟩)
  · refine x_iconst C dX12_goesTo_5 ?_
    exact x_zret C hQ (by omega) dX12_goesTo_6 (⟨_, rfl, by omega, by omega, hH, hF, hP⟩)
set_option maxHeartbeats 4000000 in
set_option maxRecDepth 100000 in
theorem lf_pathOn {D : va_G} {ad : Nat → Nat} {cA : Nat → ClassId} {X : XT} {f d c m : Int} {p : Int64} {K J : Int} (K1 : K ≤ 1000) (d0 : 0 ≤ d) (d1 : d ≤ 3) (hH : HG vM X) (hF : FR mdPT X X) (hP : PTH K J X) (hw : 2 ≤ X.1 0 22 ∧ X.1 0 22 ≤ 6) (hh : 2 ≤ X.1 0 23 ∧ X.1 0 23 ≤ 6) {E : ET} (C : CX E (wM D ad cA) cX12_pathOn 12 RX12 (some .boolean) { frames := 3, cells := 0, slots := 0, locals := 69 }) (hQ : EQ E (wM D ad cA) (fun r X1 => ∃ u : Int, r = some (.int (iI u)) ∧ 0 ≤ u ∧ u ≤ 1 ∧ HG vM X1 ∧ FR mdPT X X1 ∧ PTH K J X1)) : ∀ (n : Nat) (a : Int) (t : Int) (q : Int) (z : Int64), rkI (X.1 0 22) (X.1 0 23) d a < n → 0 ≤ a → a ≤ 35 → (t = -1 ∨ (0 ≤ t ∧ t ≤ 35)) → (t = -1 ∨ (0 ≤ rkI (X.1 0 22) (X.1 0 23) d t ∧ rkI (X.1 0 22) (X.1 0 23) d t < rkI (X.1 0 22) (X.1 0 23) d a ∧ q + rkI (X.1 0 22) (X.1 0 23) d a ≤ K)) → 0 ≤ rkI (X.1 0 22) (X.1 0 23) d a → 0 ≤ q → q ≤ K → Wx E (wM D ad cA) 12 (PX (wM D ad cA) X) 20 [(11, .int (iI (t))), (7, .int (iI (a))), (8, .int (iI (q))), (9, .long (z)), (0, .ref 0), (1, .int (iI (f))), (2, .int (iI (d))), (3, .int (iI (c))), (4, .int (iI (m))), (5, .long (p))] [] := by
  intro n
  induction n with
  | zero => intro a t q z hn a0 a1 tb tk k0 q0 q1; exfalso; omega
  | succ n ih =>
    intro a t q z hn a0 a1 tb tk k0 q0 q1
    refine x_iload C dX12_pathOn_20 rfl ?_
    refine x_iconst C dX12_pathOn_22 ?_
    refine x_icmp_eq (tgt := 78) C dX12_pathOn_23 (by decide) ⟨by omega, by omega⟩ ⟨by omega, by omega⟩ (fun h1 => ?_) (fun h1 => ?_)
    · refine x_aload_n (i := 0) C dX12_pathOn_78 rfl rfl ?_
      refine x_iload C dX12_pathOn_79 rfl ?_
      refine x_iload_n (i := 2) C dX12_pathOn_81 rfl rfl ?_
      refine x_iload_n (i := 3) C dX12_pathOn_82 rfl rfl ?_
      refine x_iload C dX12_pathOn_83 rfl ?_
      refine x_lload C dX12_pathOn_85 rfl ?_
      refine x_callV (As := [.int (iI (a)), .int (iI (d)), .int (iI (c)), .int (iI (q)), .long (z)]) C (by exact (qf_comesTo (f := a) (d := d) (c := c) (m := q) (p := z) (by omega) (by omega) (by omega) (by omega) (by omega) (by omega) K1 hH FR.rf hP)) ckX12_405 im_X12_comesTo se_X12_comesTo (nlt rfl) rfl rfl rfl rfl (nle rfl) (by exact ⟨nle rfl, nle rfl⟩) dX12_pathOn_87 ?_
      rintro _ Yy2 ⟨rfl, hHy2, hGy2, hPy2⟩
      have hFy2 : FR mdPT X Yy2 := FR.tr hF hGy2 (by decide)
      refine Wx_st (st' := []) rfl ?_
      refine x_iconst C dX12_pathOn_90 ?_
      exact x_zret C hQ (by omega) dX12_pathOn_91 (⟨_, rfl, by omega, by omega, hHy2, hFy2, hPy2⟩)
    · refine x_iload C dX12_pathOn_26 rfl ?_
      refine x_istore (lv' := [(7, .int (iI (t))), (11, .int (iI (t))), (8, .int (iI (q))), (9, .long (z)), (0, .ref 0), (1, .int (iI (f))), (2, .int (iI (d))), (3, .int (iI (c))), (4, .int (iI (m))), (5, .long (p))]) C dX12_pathOn_28 (nlt rfl) rfl ?_
      refine x_iinc (lv' := [(8, .int (iI (q + 1))), (7, .int (iI (t))), (11, .int (iI (t))), (9, .long (z)), (0, .ref 0), (1, .int (iI (f))), (2, .int (iI (d))), (3, .int (iI (c))), (4, .int (iI (m))), (5, .long (p))]) C dX12_pathOn_30 rfl (nlt rfl) rfl ?_
      refine x_ldc2 C dX12_pathOn_33 cnX12_409 ?_
      refine x_lload C dX12_pathOn_36 rfl ?_
      refine x_lmul C dX12_pathOn_38 ?_
      refine x_genL (fun l3 el3 => ?_)
      refine x_iload_n (i := 2) C dX12_pathOn_39 rfl rfl ?_
      refine x_i2l C dX12_pathOn_40 ?_
      refine x_genL (fun l4 el4 => ?_)
      refine x_ladd C dX12_pathOn_41 ?_
      refine x_genL (fun l5 el5 => ?_)
      refine x_lstore (lv' := [(9, .long (l5)), (8, .int (iI (q + 1))), (7, .int (iI (t))), (11, .int (iI (t))), (0, .ref 0), (1, .int (iI (f))), (2, .int (iI (d))), (3, .int (iI (c))), (4, .int (iI (m))), (5, .long (p))]) C dX12_pathOn_42 (nlt rfl) rfl ?_
      refine x_aload_n (i := 0) C dX12_pathOn_44 rfl rfl ?_
      refine x_iload C dX12_pathOn_45 rfl ?_
      refine x_callV (As := [.int (iI (t))]) C (by exact (qf_endsThere (f := t))) ckX12_325 im_X12_endsThere se_X12_endsThere (nlt rfl) rfl rfl rfl rfl (nle rfl) (by exact ⟨nle rfl, nle rfl⟩) dX12_pathOn_47 ?_
      rintro _ Xv6 ⟨hxv6, v6, rfl, ev6⟩
      rw [hxv6]
      have bv6 : 0 ≤ v6 ∧ v6 ≤ 1 := by rw [ev6]; exact zB_01 _
      refine Wx_st (st' := [.int (iI (v6))]) rfl ?_
      refine x_if_eq (tgt := 66) C dX12_pathOn_50 (by decide) ⟨by omega, by omega⟩ (fun h7 => ?_) (fun h7 => ?_)
      · refine x_aload_n (i := 0) C dX12_pathOn_66 rfl rfl ?_
        refine x_iload C dX12_pathOn_67 rfl ?_
        refine x_iload_n (i := 2) C dX12_pathOn_69 rfl rfl ?_
        refine x_callV (As := [.int (iI (t)), .int (iI (d))]) C (by exact (qf_step (p := t) (d := d) (by omega) (by omega) hw hh (by omega) (by omega))) ckX12_322 im_X12_step se_X12_step (nlt rfl) rfl rfl rfl rfl (nle rfl) (by exact ⟨nle rfl, nle rfl⟩) dX12_pathOn_70 ?_
        rintro _ Xv8 ⟨hxv8, v8, rfl, ev8⟩
        rw [hxv8]
        refine Wx_st (st' := [.int (iI (v8))]) rfl ?_
        have bv8 : v8 = -1 ∨ (0 ≤ v8 ∧ v8 ≤ 35) := by rw [ev8]; exact stp_bd hw hh
        have kv8 : v8 = -1 ∨ (0 ≤ rkI (X.1 0 22) (X.1 0 23) d v8 ∧ rkI (X.1 0 22) (X.1 0 23) d v8 < rkI (X.1 0 22) (X.1 0 23) d t ∧ rkI (X.1 0 22) (X.1 0 23) d t ≤ 6) := by
          by_cases q : v8 = -1
          · exact .inl q
          · rw [ev8] at q bv8 ⊢
            have sd := stp_dec hw hh (by omega) (by omega) (by omega) (by omega) q
            exact .inr ⟨rk_nn hw (by omega) (by omega), sd.1, sd.2⟩
        refine x_istore (lv' := [(11, .int (iI (v8))), (9, .long (l5)), (8, .int (iI (q + 1))), (7, .int (iI (t))), (0, .ref 0), (1, .int (iI (f))), (2, .int (iI (d))), (3, .int (iI (c))), (4, .int (iI (m))), (5, .long (p))]) C dX12_pathOn_73 (nlt rfl) rfl ?_
        refine x_goto (tgt := 20) C dX12_pathOn_75 (by decide) ?_
        refine Wx_pick [11, 7, 8, 9, 0, 1, 2, 3, 4, 5] ?_
        refine Wx_lv (lv' := [(11, .int (iI (v8))), (7, .int (iI (t))), (8, .int (iI (q + 1))), (9, .long (l5)), (0, .ref 0), (1, .int (iI (f))), (2, .int (iI (d))), (3, .int (iI (c))), (4, .int (iI (m))), (5, .long (p))]) rfl ?_
        exact ih _ _ _ _ (by omega) (by omega) (by omega) bv8 (by omega) (by omega) (by omega) (by omega)
      · refine x_aload_n (i := 0) C dX12_pathOn_53 rfl rfl ?_
        refine x_iload C dX12_pathOn_54 rfl ?_
        refine x_iload_n (i := 3) C dX12_pathOn_56 rfl rfl ?_
        refine x_iload C dX12_pathOn_57 rfl ?_
        refine x_lload C dX12_pathOn_59 rfl ?_
        refine x_callV (As := [.int (iI (t)), .int (iI (c)), .int (iI (q + 1)), .long (l5)]) C (by exact (qf_endsAt (f := t) (c := c) (m := q + 1) (p := l5) (by omega) (by omega) (by omega) (by omega) hH FR.rf hP)) ckX12_401 im_X12_endsAt se_X12_endsAt (nlt rfl) rfl rfl rfl rfl (nle rfl) (by exact ⟨nle rfl, nle rfl⟩) dX12_pathOn_61 ?_
        rintro _ Yy9 ⟨rfl, hHy9, hGy9, hPy9⟩
        have hFy9 : FR mdPT X Yy9 := FR.tr hF hGy9 (by decide)
        refine Wx_st (st' := []) rfl ?_
        refine x_iconst C dX12_pathOn_64 ?_
        exact x_zret C hQ (by omega) dX12_pathOn_65 (⟨_, rfl, by omega, by omega, hHy9, hFy9, hPy9⟩)
set_option maxHeartbeats 4000000 in
set_option maxRecDepth 100000 in
theorem qf_pathOn {D : va_G} {ad : Nat → Nat} {cA : Nat → ClassId} {X : XT} {f d c m : Int} {p : Int64} {K J : Int} (K1 : K ≤ 1000) (d0 : 0 ≤ d) (d1 : d ≤ 3) (hH : HG vM X) (hF : FR mdPT X X) (hP : PTH K J X) (hw : 2 ≤ X.1 0 22 ∧ X.1 0 22 ≤ 6) (hh : 2 ≤ X.1 0 23 ∧ X.1 0 23 ≤ 6) (f0 : 0 ≤ f) (f1 : f ≤ 35) (m0 : 0 ≤ m) (m1 : m + 6 ≤ K) : MetX (wM D ad cA) yX12_pathOn cX12_pathOn 12 (some .boolean) 3 69 [.ref 0, .int (iI (f)), .int (iI (d)), .int (iI (c)), .int (iI (m)), .long (p)] X (fun r X1 => ∃ u : Int, r = some (.int (iI u)) ∧ 0 ≤ u ∧ u ≤ 1 ∧ HG vM X1 ∧ FR mdPT X X1 ∧ PTH K J X1) := by
  refine MetX.mk (own := RX12) (by decide +kernel) rfl (nle rfl) (fun E C hQ => ?_)
  refine Wx_lv (lv' := [(0, .ref 0), (1, .int (iI (f))), (2, .int (iI (d))), (3, .int (iI (c))), (4, .int (iI (m))), (5, .long (p))]) rfl ?_
  refine x_iload_n (i := 1) C dX12_pathOn_0 rfl rfl ?_
  refine x_istore (lv' := [(7, .int (iI (f))), (0, .ref 0), (1, .int (iI (f))), (2, .int (iI (d))), (3, .int (iI (c))), (4, .int (iI (m))), (5, .long (p))]) C dX12_pathOn_1 (nlt rfl) rfl ?_
  refine x_iload C dX12_pathOn_3 rfl ?_
  refine x_istore (lv' := [(8, .int (iI (m))), (7, .int (iI (f))), (0, .ref 0), (1, .int (iI (f))), (2, .int (iI (d))), (3, .int (iI (c))), (4, .int (iI (m))), (5, .long (p))]) C dX12_pathOn_5 (nlt rfl) rfl ?_
  refine x_lload C dX12_pathOn_7 rfl ?_
  refine x_lstore (lv' := [(9, .long (p)), (8, .int (iI (m))), (7, .int (iI (f))), (0, .ref 0), (1, .int (iI (f))), (2, .int (iI (d))), (3, .int (iI (c))), (4, .int (iI (m))), (5, .long (p))]) C dX12_pathOn_9 (nlt rfl) rfl ?_
  refine x_aload_n (i := 0) C dX12_pathOn_11 rfl rfl ?_
  refine x_iload C dX12_pathOn_12 rfl ?_
  refine x_iload_n (i := 2) C dX12_pathOn_14 rfl rfl ?_
  refine x_callV (As := [.int (iI (f)), .int (iI (d))]) C (by exact (qf_step (p := f) (d := d) (by omega) (by omega) hw hh (by omega) (by omega))) ckX12_322 im_X12_step se_X12_step (nlt rfl) rfl rfl rfl rfl (nle rfl) (by exact ⟨nle rfl, nle rfl⟩) dX12_pathOn_15 ?_
  rintro _ Xv1 ⟨hxv1, v1, rfl, ev1⟩
  rw [hxv1]
  refine Wx_st (st' := [.int (iI (v1))]) rfl ?_
  have bv1 : v1 = -1 ∨ (0 ≤ v1 ∧ v1 ≤ 35) := by rw [ev1]; exact stp_bd hw hh
  have kv1 : v1 = -1 ∨ (0 ≤ rkI (X.1 0 22) (X.1 0 23) d v1 ∧ rkI (X.1 0 22) (X.1 0 23) d v1 < rkI (X.1 0 22) (X.1 0 23) d f ∧ rkI (X.1 0 22) (X.1 0 23) d f ≤ 6) := by
    by_cases q : v1 = -1
    · exact .inl q
    · rw [ev1] at q bv1 ⊢
      have sd := stp_dec hw hh (by omega) (by omega) (by omega) (by omega) q
      exact .inr ⟨rk_nn hw (by omega) (by omega), sd.1, sd.2⟩
  refine x_istore (lv' := [(11, .int (iI (v1))), (9, .long (p)), (8, .int (iI (m))), (7, .int (iI (f))), (0, .ref 0), (1, .int (iI (f))), (2, .int (iI (d))), (3, .int (iI (c))), (4, .int (iI (m))), (5, .long (p))]) C dX12_pathOn_18 (nlt rfl) rfl ?_
  have nf := rk_nn (H := X.1 0 23) (d := d) (p := f) hw (by omega) (by omega)
  refine Wx_pick [11, 7, 8, 9, 0, 1, 2, 3, 4, 5] ?_
  refine Wx_lv (lv' := [(11, .int (iI (v1))), (7, .int (iI (f))), (8, .int (iI (m))), (9, .long (p)), (0, .ref 0), (1, .int (iI (f))), (2, .int (iI (d))), (3, .int (iI (c))), (4, .int (iI (m))), (5, .long (p))]) rfl ?_
  exact lf_pathOn K1 (by omega) (by omega) hH hF hP hw hh C hQ (rkI (X.1 0 22) (X.1 0 23) d f + 1).toNat f v1 m p (by omega) (by omega) (by omega) bv1 (by omega) (by omega) (by omega) (by omega)
set_option maxHeartbeats 4000000 in
set_option maxRecDepth 100000 in
theorem ls_isBeside {D : va_G} {ad : Nat → Nat} {cA : Nat → ClassId} {X : XT} {f : Int} (f0 : 0 ≤ f) (f1 : f ≤ 35) (hw : 2 ≤ X.1 0 22 ∧ X.1 0 22 ≤ 6) (hh : 2 ≤ X.1 0 23 ∧ X.1 0 23 ≤ 6) {E : ET} (C : CX E (wM D ad cA) cX12_isBeside 4 RX12 (some .boolean) { frames := 2, cells := 0, slots := 0, locals := 46 }) (hQ : EQ E (wM D ad cA) (fun r X' => X' = X ∧ ∃ u : Int, r = some (.int (iI u)) ∧ 0 ≤ u ∧ u ≤ 1)) : ∀ (n : Nat) (d : Int), 4 - d < n → 0 ≤ d → d ≤ 4 → Wx E (wM D ad cA) 4 (PX (wM D ad cA) X) 2 [(2, .int (iI (d))), (0, .ref 0), (1, .int (iI (f)))] [] := by
  intro n
  induction n with
  | zero => intro d hn d0 d1; exfalso; omega
  | succ n ih =>
    intro d hn d0 d1
    refine x_iload_n (i := 2) C dX12_isBeside_2 rfl rfl ?_
    refine x_iconst C dX12_isBeside_3 ?_
    refine x_icmp_ge (tgt := 38) C dX12_isBeside_4 (by decide) ⟨by omega, by omega⟩ ⟨by omega, by omega⟩ (fun h1 => ?_) (fun h1 => ?_)
    · refine x_iconst C dX12_isBeside_38 ?_
      exact x_zret C hQ (by omega) dX12_isBeside_39 (⟨rfl, _, rfl, by omega, by omega⟩)
    · refine x_aload_n (i := 0) C dX12_isBeside_7 rfl rfl ?_
      refine x_iload_n (i := 1) C dX12_isBeside_8 rfl rfl ?_
      refine x_iload_n (i := 2) C dX12_isBeside_9 rfl rfl ?_
      refine x_callV (As := [.int (iI (f)), .int (iI (d))]) C (by exact (qf_next (p := f) (d := d) (by omega) (by omega) hw hh (by omega) (by omega))) ckX12_318 im_X12_next se_X12_next (nlt rfl) rfl rfl rfl rfl (nle rfl) (by exact ⟨nle rfl, nle rfl⟩) dX12_isBeside_10 ?_
      rintro _ Xv2 ⟨hxv2, v2, rfl, ev2⟩
      rw [hxv2]
      refine Wx_st (st' := [.int (iI (v2))]) rfl ?_
      have bv2 : v2 = -1 ∨ (0 ≤ v2 ∧ v2 ≤ 35) := by rw [ev2]; exact nxt_bd hw hh
      refine x_istore_n (i := 3) (lv' := [(3, .int (iI (v2))), (2, .int (iI (d))), (0, .ref 0), (1, .int (iI (f)))]) C dX12_isBeside_13 rfl (nlt rfl) rfl ?_
      refine x_iload_n (i := 3) C dX12_isBeside_14 rfl rfl ?_
      refine x_iconst C dX12_isBeside_15 ?_
      refine x_icmp_eq (tgt := 32) C dX12_isBeside_16 (by decide) ⟨by omega, by omega⟩ ⟨by omega, by omega⟩ (fun h3 => ?_) (fun h3 => ?_)
      · refine x_iinc (lv' := [(2, .int (iI (d + 1))), (3, .int (iI (v2))), (0, .ref 0), (1, .int (iI (f)))]) C dX12_isBeside_32 rfl (nlt rfl) rfl ?_
        refine x_goto (tgt := 2) C dX12_isBeside_35 (by decide) ?_
        refine Wx_pick [2, 0, 1] ?_
        refine Wx_lv (lv' := [(2, .int (iI (d + 1))), (0, .ref 0), (1, .int (iI (f)))]) rfl ?_
        exact ih _ (by omega) (by omega) (by omega)
      · refine x_aload_n (i := 0) C dX12_isBeside_19 rfl rfl ?_
        refine x_getL C fkM_X12_315 (nlt rfl) rfl dX12_isBeside_20 ?_
        refine x_genL (fun l4 el4 => ?_)
        refine x_iload_n (i := 3) C dX12_isBeside_23 rfl rfl ?_
        refine x_callS (As := [.long (l4), .int (iI (v2))]) C (by exact (qf_has (z := l4) (i := v2))) ckX12_299 sm_X12_has rfl rfl (nle rfl) (by exact ⟨nle rfl, nle rfl⟩) dX12_isBeside_24 ?_
        rintro _ Xv5 ⟨hxv5, v5, rfl, ev5⟩
        rw [hxv5]
        have bv5 : 0 ≤ v5 ∧ v5 ≤ 1 := by rw [ev5]; exact zB_01 _
        refine Wx_st (st' := [.int (iI (v5))]) rfl ?_
        refine x_if_eq (tgt := 32) C dX12_isBeside_27 (by decide) ⟨by omega, by omega⟩ (fun h6 => ?_) (fun h6 => ?_)
        · refine x_iinc (lv' := [(2, .int (iI (d + 1))), (3, .int (iI (v2))), (0, .ref 0), (1, .int (iI (f)))]) C dX12_isBeside_32 rfl (nlt rfl) rfl ?_
          refine x_goto (tgt := 2) C dX12_isBeside_35 (by decide) ?_
          refine Wx_pick [2, 0, 1] ?_
          refine Wx_lv (lv' := [(2, .int (iI (d + 1))), (0, .ref 0), (1, .int (iI (f)))]) rfl ?_
          exact ih _ (by omega) (by omega) (by omega)
        · refine x_iconst C dX12_isBeside_30 ?_
          exact x_zret C hQ (by omega) dX12_isBeside_31 (⟨rfl, _, rfl, by omega, by omega⟩)
set_option maxHeartbeats 4000000 in
set_option maxRecDepth 100000 in
theorem qs_isBeside {D : va_G} {ad : Nat → Nat} {cA : Nat → ClassId} {X : XT} {f : Int} (f0 : 0 ≤ f) (f1 : f ≤ 35) (hw : 2 ≤ X.1 0 22 ∧ X.1 0 22 ≤ 6) (hh : 2 ≤ X.1 0 23 ∧ X.1 0 23 ≤ 6) : MetX (wM D ad cA) yX12_isBeside cX12_isBeside 4 (some .boolean) 2 46 [.ref 0, .int (iI (f))] X (fun r X' => X' = X ∧ ∃ u : Int, r = some (.int (iI u)) ∧ 0 ≤ u ∧ u ≤ 1) := by
  refine MetX.mk (own := RX12) (by decide +kernel) rfl (nle rfl) (fun E C hQ => ?_)
  refine Wx_lv (lv' := [(0, .ref 0), (1, .int (iI (f)))]) rfl ?_
  refine x_iconst C dX12_isBeside_0 ?_
  refine x_istore_n (i := 2) (lv' := [(2, .int (iI (0))), (0, .ref 0), (1, .int (iI (f)))]) C dX12_isBeside_1 rfl (nlt rfl) rfl ?_
  refine Wx_pick [2, 0, 1] ?_
  refine Wx_lv (lv' := [(2, .int (iI (0))), (0, .ref 0), (1, .int (iI (f)))]) rfl ?_
  exact ls_isBeside f0 f1 hw hh C hQ 5 0 (by omega) (by omega) (by omega)
set_option maxHeartbeats 4000000 in
set_option maxRecDepth 100000 in
theorem lf_pathBy {D : va_G} {ad : Nat → Nat} {cA : Nat → ClassId} {X0 : XT} {sg a f y c q : Int} {p : Int64} {K J : Int} (K1 : K ≤ 1000) (f0 : 0 ≤ f) (f1 : f ≤ 35) (s0 : 0 ≤ sg) (s1 : sg ≤ 10) (q0 : 0 ≤ q) (q1 : q + 6 ≤ K) (hw0 : 2 ≤ X0.1 0 22 ∧ X0.1 0 22 ≤ 6) (hh0 : 2 ≤ X0.1 0 23 ∧ X0.1 0 23 ≤ 6) {E : ET} (C : CX E (wM D ad cA) cX12_pathBy 12 RX12 (some .boolean) { frames := 4, cells := 0, slots := 0, locals := 100 }) (hQ : EQ E (wM D ad cA) (fun r X1 => ∃ u : Int, r = some (.int (iI u)) ∧ 0 ≤ u ∧ u ≤ 1 ∧ HG vM X1 ∧ FR mdPT X0 X1 ∧ PTH K J X1)) : ∀ (n : Nat) (d : Int) (o : Int) (X : XT), 4 - d < n → 0 ≤ d → d ≤ 4 → 0 ≤ o → o ≤ 1 → HG vM X → FR mdPT X0 X → PTH K J X → Wx E (wM D ad cA) 12 (PX (wM D ad cA) X) 46 [(10, .int (iI (d))), (9, .int (iI (o))), (0, .ref 0), (1, .int (iI (sg))), (2, .int (iI (a))), (3, .int (iI (f))), (4, .int (iI (y))), (5, .int (iI (c))), (6, .int (iI (q))), (7, .long (p))] [] := by
  intro n
  induction n with
  | zero => intro d o X hn d0 d1 o0 o1 hH hF hP; exfalso; omega
  | succ n ih =>
    intro d o X hn d0 d1 o0 o1 hH hF hP
    have hw : 2 ≤ X.1 0 22 ∧ X.1 0 22 ≤ 6 := by rw [(hF 0 22 rfl).1]; exact hw0
    have hh : 2 ≤ X.1 0 23 ∧ X.1 0 23 ≤ 6 := by rw [(hF 0 23 rfl).1]; exact hh0
    refine x_iload C dX12_pathBy_46 rfl ?_
    refine x_iconst C dX12_pathBy_48 ?_
    refine x_icmp_ge (tgt := 125) C dX12_pathBy_49 (by decide) ⟨by omega, by omega⟩ ⟨by omega, by omega⟩ (fun h1 => ?_) (fun h1 => ?_)
    · refine x_iload C dX12_pathBy_125 rfl ?_
      exact x_zret C hQ (by omega) dX12_pathBy_127 (⟨_, rfl, by omega, by omega, hH, hF, hP⟩)
    · refine x_iload_n (i := 1) C dX12_pathBy_52 rfl rfl ?_
      refine x_iconst C dX12_pathBy_53 ?_
      refine x_icmp_eq (tgt := 63) C dX12_pathBy_54 (by decide) ⟨by omega, by omega⟩ ⟨by omega, by omega⟩ (fun h2 => ?_) (fun h2 => ?_)
      · refine x_aload_n (i := 0) C dX12_pathBy_63 rfl rfl ?_
        refine x_aload_n (i := 0) C dX12_pathBy_64 rfl rfl ?_
        refine x_iload_n (i := 3) C dX12_pathBy_65 rfl rfl ?_
        refine x_iload C dX12_pathBy_66 rfl ?_
        refine x_callV (As := [.int (iI (f)), .int (iI (d))]) C (by exact (qf_step (p := f) (d := d) (by omega) (by omega) hw hh (by omega) (by omega))) ckX12_322 im_X12_step se_X12_step (nlt rfl) rfl rfl rfl rfl (nle rfl) (by exact ⟨nle rfl, nle rfl⟩) dX12_pathBy_68 ?_
        rintro _ Xv3 ⟨hxv3, v3, rfl, ev3⟩
        rw [hxv3]
        refine Wx_st (st' := [.int (iI (v3)), .ref 0]) rfl ?_
        have bv3 : v3 = -1 ∨ (0 ≤ v3 ∧ v3 ≤ 35) := by rw [ev3]; exact stp_bd hw hh
        refine x_iload C dX12_pathBy_71 rfl ?_
        refine x_iload C dX12_pathBy_73 rfl ?_
        refine x_iload C dX12_pathBy_75 rfl ?_
        refine x_iconst C dX12_pathBy_77 ?_
        refine x_iadd C dX12_pathBy_78 ?_
        refine x_ldc2 C dX12_pathBy_79 cnX12_409 ?_
        refine x_lload C dX12_pathBy_82 rfl ?_
        refine x_lmul C dX12_pathBy_84 ?_
        refine x_genL (fun l4 el4 => ?_)
        refine x_iload C dX12_pathBy_85 rfl ?_
        refine x_i2l C dX12_pathBy_87 ?_
        refine x_genL (fun l5 el5 => ?_)
        refine x_ladd C dX12_pathBy_88 ?_
        refine x_genL (fun l6 el6 => ?_)
        refine x_callV (As := [.int (iI (v3)), .int (iI (d)), .int (iI (c)), .int (iI (q + 1)), .long (l6)]) C (by exact (qf_goesTo (t := v3) (d := d) (c := c) (m := q + 1) (p := l6) K1 (by omega) (by omega) (by omega) (by omega) (by omega) (by omega) hH FR.rf hP)) ckX12_411 im_X12_goesTo se_X12_goesTo (nlt rfl) rfl rfl rfl rfl (nle rfl) (by exact ⟨nle rfl, nle rfl⟩) dX12_pathBy_89 ?_
        rintro _ Yy7 ⟨v8, rfl, bv8, cv8, hHy7, hGy7, hPy7⟩
        have hFy7 : FR mdPT X0 Yy7 := FR.tr hF hGy7 (by decide)
        refine Wx_st (st' := [.int (iI (v8))]) rfl ?_
        refine x_if_eq (tgt := 99) C dX12_pathBy_92 (by decide) ⟨by omega, by omega⟩ (fun h9 => ?_) (fun h9 => ?_)
        · refine x_iconst C dX12_pathBy_99 ?_
          refine x_istore (lv' := [(11, .int (iI (0))), (10, .int (iI (d))), (9, .int (iI (o))), (0, .ref 0), (1, .int (iI (sg))), (2, .int (iI (a))), (3, .int (iI (f))), (4, .int (iI (y))), (5, .int (iI (c))), (6, .int (iI (q))), (7, .long (p))]) C dX12_pathBy_100 (nlt rfl) rfl ?_
          refine x_iload C dX12_pathBy_102 rfl ?_
          refine x_if_ne (tgt := 112) C dX12_pathBy_104 (by decide) ⟨by omega, by omega⟩ (fun h10 => ?_) (fun h10 => ?_)
          · refine x_iconst C dX12_pathBy_112 ?_
            refine x_goto (tgt := 117) C dX12_pathBy_113 (by decide) ?_
            refine x_istore (lv' := [(9, .int (iI (1))), (11, .int (iI (0))), (10, .int (iI (d))), (0, .ref 0), (1, .int (iI (sg))), (2, .int (iI (a))), (3, .int (iI (f))), (4, .int (iI (y))), (5, .int (iI (c))), (6, .int (iI (q))), (7, .long (p))]) C dX12_pathBy_117 (nlt rfl) rfl ?_
            refine x_iinc (lv' := [(10, .int (iI (d + 1))), (9, .int (iI (1))), (11, .int (iI (0))), (0, .ref 0), (1, .int (iI (sg))), (2, .int (iI (a))), (3, .int (iI (f))), (4, .int (iI (y))), (5, .int (iI (c))), (6, .int (iI (q))), (7, .long (p))]) C dX12_pathBy_119 rfl (nlt rfl) rfl ?_
            refine x_goto (tgt := 46) C dX12_pathBy_122 (by decide) ?_
            refine Wx_pick [10, 9, 0, 1, 2, 3, 4, 5, 6, 7] ?_
            refine Wx_lv (lv' := [(10, .int (iI (d + 1))), (9, .int (iI (1))), (0, .ref 0), (1, .int (iI (sg))), (2, .int (iI (a))), (3, .int (iI (f))), (4, .int (iI (y))), (5, .int (iI (c))), (6, .int (iI (q))), (7, .long (p))]) rfl ?_
            exact ih _ _ _ (by omega) (by omega) (by omega) (by omega) (by omega) hHy7 hFy7 hPy7
          · refine x_iload C dX12_pathBy_107 rfl ?_
            refine x_if_eq (tgt := 116) C dX12_pathBy_109 (by decide) ⟨by omega, by omega⟩ (fun h11 => ?_) (fun h11 => by exfalso; omega)
            refine x_iconst C dX12_pathBy_116 ?_
            refine x_istore (lv' := [(9, .int (iI (0))), (11, .int (iI (0))), (10, .int (iI (d))), (0, .ref 0), (1, .int (iI (sg))), (2, .int (iI (a))), (3, .int (iI (f))), (4, .int (iI (y))), (5, .int (iI (c))), (6, .int (iI (q))), (7, .long (p))]) C dX12_pathBy_117 (nlt rfl) rfl ?_
            refine x_iinc (lv' := [(10, .int (iI (d + 1))), (9, .int (iI (0))), (11, .int (iI (0))), (0, .ref 0), (1, .int (iI (sg))), (2, .int (iI (a))), (3, .int (iI (f))), (4, .int (iI (y))), (5, .int (iI (c))), (6, .int (iI (q))), (7, .long (p))]) C dX12_pathBy_119 rfl (nlt rfl) rfl ?_
            refine x_goto (tgt := 46) C dX12_pathBy_122 (by decide) ?_
            refine Wx_pick [10, 9, 0, 1, 2, 3, 4, 5, 6, 7] ?_
            refine Wx_lv (lv' := [(10, .int (iI (d + 1))), (9, .int (iI (0))), (0, .ref 0), (1, .int (iI (sg))), (2, .int (iI (a))), (3, .int (iI (f))), (4, .int (iI (y))), (5, .int (iI (c))), (6, .int (iI (q))), (7, .long (p))]) rfl ?_
            exact ih _ _ _ (by omega) (by omega) (by omega) (by omega) (by omega) hHy7 hFy7 hPy7
        · refine x_iconst C dX12_pathBy_95 ?_
          refine x_goto (tgt := 100) C dX12_pathBy_96 (by decide) ?_
          refine x_istore (lv' := [(11, .int (iI (1))), (10, .int (iI (d))), (9, .int (iI (o))), (0, .ref 0), (1, .int (iI (sg))), (2, .int (iI (a))), (3, .int (iI (f))), (4, .int (iI (y))), (5, .int (iI (c))), (6, .int (iI (q))), (7, .long (p))]) C dX12_pathBy_100 (nlt rfl) rfl ?_
          refine x_iload C dX12_pathBy_102 rfl ?_
          refine x_if_ne (tgt := 112) C dX12_pathBy_104 (by decide) ⟨by omega, by omega⟩ (fun h12 => ?_) (fun h12 => ?_)
          · refine x_iconst C dX12_pathBy_112 ?_
            refine x_goto (tgt := 117) C dX12_pathBy_113 (by decide) ?_
            refine x_istore (lv' := [(9, .int (iI (1))), (11, .int (iI (1))), (10, .int (iI (d))), (0, .ref 0), (1, .int (iI (sg))), (2, .int (iI (a))), (3, .int (iI (f))), (4, .int (iI (y))), (5, .int (iI (c))), (6, .int (iI (q))), (7, .long (p))]) C dX12_pathBy_117 (nlt rfl) rfl ?_
            refine x_iinc (lv' := [(10, .int (iI (d + 1))), (9, .int (iI (1))), (11, .int (iI (1))), (0, .ref 0), (1, .int (iI (sg))), (2, .int (iI (a))), (3, .int (iI (f))), (4, .int (iI (y))), (5, .int (iI (c))), (6, .int (iI (q))), (7, .long (p))]) C dX12_pathBy_119 rfl (nlt rfl) rfl ?_
            refine x_goto (tgt := 46) C dX12_pathBy_122 (by decide) ?_
            refine Wx_pick [10, 9, 0, 1, 2, 3, 4, 5, 6, 7] ?_
            refine Wx_lv (lv' := [(10, .int (iI (d + 1))), (9, .int (iI (1))), (0, .ref 0), (1, .int (iI (sg))), (2, .int (iI (a))), (3, .int (iI (f))), (4, .int (iI (y))), (5, .int (iI (c))), (6, .int (iI (q))), (7, .long (p))]) rfl ?_
            exact ih _ _ _ (by omega) (by omega) (by omega) (by omega) (by omega) hHy7 hFy7 hPy7
          · refine x_iload C dX12_pathBy_107 rfl ?_
            refine x_if_eq (tgt := 116) C dX12_pathBy_109 (by decide) ⟨by omega, by omega⟩ (fun h13 => by exfalso; omega) (fun h13 => ?_)
            refine x_iconst C dX12_pathBy_112 ?_
            refine x_goto (tgt := 117) C dX12_pathBy_113 (by decide) ?_
            refine x_istore (lv' := [(9, .int (iI (1))), (11, .int (iI (1))), (10, .int (iI (d))), (0, .ref 0), (1, .int (iI (sg))), (2, .int (iI (a))), (3, .int (iI (f))), (4, .int (iI (y))), (5, .int (iI (c))), (6, .int (iI (q))), (7, .long (p))]) C dX12_pathBy_117 (nlt rfl) rfl ?_
            refine x_iinc (lv' := [(10, .int (iI (d + 1))), (9, .int (iI (1))), (11, .int (iI (1))), (0, .ref 0), (1, .int (iI (sg))), (2, .int (iI (a))), (3, .int (iI (f))), (4, .int (iI (y))), (5, .int (iI (c))), (6, .int (iI (q))), (7, .long (p))]) C dX12_pathBy_119 rfl (nlt rfl) rfl ?_
            refine x_goto (tgt := 46) C dX12_pathBy_122 (by decide) ?_
            refine Wx_pick [10, 9, 0, 1, 2, 3, 4, 5, 6, 7] ?_
            refine Wx_lv (lv' := [(10, .int (iI (d + 1))), (9, .int (iI (1))), (0, .ref 0), (1, .int (iI (sg))), (2, .int (iI (a))), (3, .int (iI (f))), (4, .int (iI (y))), (5, .int (iI (c))), (6, .int (iI (q))), (7, .long (p))]) rfl ?_
            exact ih _ _ _ (by omega) (by omega) (by omega) (by omega) (by omega) hHy7 hFy7 hPy7
      · refine x_iload_n (i := 1) C dX12_pathBy_57 rfl rfl ?_
        refine x_iload C dX12_pathBy_58 rfl ?_
        refine x_icmp_ne (tgt := 99) C dX12_pathBy_60 (by decide) ⟨by omega, by omega⟩ ⟨by omega, by omega⟩ (fun h14 => ?_) (fun h14 => ?_)
        · refine x_iconst C dX12_pathBy_99 ?_
          refine x_istore (lv' := [(11, .int (iI (0))), (10, .int (iI (d))), (9, .int (iI (o))), (0, .ref 0), (1, .int (iI (sg))), (2, .int (iI (a))), (3, .int (iI (f))), (4, .int (iI (y))), (5, .int (iI (c))), (6, .int (iI (q))), (7, .long (p))]) C dX12_pathBy_100 (nlt rfl) rfl ?_
          refine x_iload C dX12_pathBy_102 rfl ?_
          refine x_if_ne (tgt := 112) C dX12_pathBy_104 (by decide) ⟨by omega, by omega⟩ (fun h15 => ?_) (fun h15 => ?_)
          · refine x_iconst C dX12_pathBy_112 ?_
            refine x_goto (tgt := 117) C dX12_pathBy_113 (by decide) ?_
            refine x_istore (lv' := [(9, .int (iI (1))), (11, .int (iI (0))), (10, .int (iI (d))), (0, .ref 0), (1, .int (iI (sg))), (2, .int (iI (a))), (3, .int (iI (f))), (4, .int (iI (y))), (5, .int (iI (c))), (6, .int (iI (q))), (7, .long (p))]) C dX12_pathBy_117 (nlt rfl) rfl ?_
            refine x_iinc (lv' := [(10, .int (iI (d + 1))), (9, .int (iI (1))), (11, .int (iI (0))), (0, .ref 0), (1, .int (iI (sg))), (2, .int (iI (a))), (3, .int (iI (f))), (4, .int (iI (y))), (5, .int (iI (c))), (6, .int (iI (q))), (7, .long (p))]) C dX12_pathBy_119 rfl (nlt rfl) rfl ?_
            refine x_goto (tgt := 46) C dX12_pathBy_122 (by decide) ?_
            refine Wx_pick [10, 9, 0, 1, 2, 3, 4, 5, 6, 7] ?_
            refine Wx_lv (lv' := [(10, .int (iI (d + 1))), (9, .int (iI (1))), (0, .ref 0), (1, .int (iI (sg))), (2, .int (iI (a))), (3, .int (iI (f))), (4, .int (iI (y))), (5, .int (iI (c))), (6, .int (iI (q))), (7, .long (p))]) rfl ?_
            exact ih _ _ _ (by omega) (by omega) (by omega) (by omega) (by omega) hH hF hP
          · refine x_iload C dX12_pathBy_107 rfl ?_
            refine x_if_eq (tgt := 116) C dX12_pathBy_109 (by decide) ⟨by omega, by omega⟩ (fun h16 => ?_) (fun h16 => by exfalso; omega)
            refine x_iconst C dX12_pathBy_116 ?_
            refine x_istore (lv' := [(9, .int (iI (0))), (11, .int (iI (0))), (10, .int (iI (d))), (0, .ref 0), (1, .int (iI (sg))), (2, .int (iI (a))), (3, .int (iI (f))), (4, .int (iI (y))), (5, .int (iI (c))), (6, .int (iI (q))), (7, .long (p))]) C dX12_pathBy_117 (nlt rfl) rfl ?_
            refine x_iinc (lv' := [(10, .int (iI (d + 1))), (9, .int (iI (0))), (11, .int (iI (0))), (0, .ref 0), (1, .int (iI (sg))), (2, .int (iI (a))), (3, .int (iI (f))), (4, .int (iI (y))), (5, .int (iI (c))), (6, .int (iI (q))), (7, .long (p))]) C dX12_pathBy_119 rfl (nlt rfl) rfl ?_
            refine x_goto (tgt := 46) C dX12_pathBy_122 (by decide) ?_
            refine Wx_pick [10, 9, 0, 1, 2, 3, 4, 5, 6, 7] ?_
            refine Wx_lv (lv' := [(10, .int (iI (d + 1))), (9, .int (iI (0))), (0, .ref 0), (1, .int (iI (sg))), (2, .int (iI (a))), (3, .int (iI (f))), (4, .int (iI (y))), (5, .int (iI (c))), (6, .int (iI (q))), (7, .long (p))]) rfl ?_
            exact ih _ _ _ (by omega) (by omega) (by omega) (by omega) (by omega) hH hF hP
        · refine x_aload_n (i := 0) C dX12_pathBy_63 rfl rfl ?_
          refine x_aload_n (i := 0) C dX12_pathBy_64 rfl rfl ?_
          refine x_iload_n (i := 3) C dX12_pathBy_65 rfl rfl ?_
          refine x_iload C dX12_pathBy_66 rfl ?_
          refine x_callV (As := [.int (iI (f)), .int (iI (d))]) C (by exact (qf_step (p := f) (d := d) (by omega) (by omega) hw hh (by omega) (by omega))) ckX12_322 im_X12_step se_X12_step (nlt rfl) rfl rfl rfl rfl (nle rfl) (by exact ⟨nle rfl, nle rfl⟩) dX12_pathBy_68 ?_
          rintro _ Xv17 ⟨hxv17, v17, rfl, ev17⟩
          rw [hxv17]
          refine Wx_st (st' := [.int (iI (v17)), .ref 0]) rfl ?_
          have bv17 : v17 = -1 ∨ (0 ≤ v17 ∧ v17 ≤ 35) := by rw [ev17]; exact stp_bd hw hh
          refine x_iload C dX12_pathBy_71 rfl ?_
          refine x_iload C dX12_pathBy_73 rfl ?_
          refine x_iload C dX12_pathBy_75 rfl ?_
          refine x_iconst C dX12_pathBy_77 ?_
          refine x_iadd C dX12_pathBy_78 ?_
          refine x_ldc2 C dX12_pathBy_79 cnX12_409 ?_
          refine x_lload C dX12_pathBy_82 rfl ?_
          refine x_lmul C dX12_pathBy_84 ?_
          refine x_genL (fun l18 el18 => ?_)
          refine x_iload C dX12_pathBy_85 rfl ?_
          refine x_i2l C dX12_pathBy_87 ?_
          refine x_genL (fun l19 el19 => ?_)
          refine x_ladd C dX12_pathBy_88 ?_
          refine x_genL (fun l20 el20 => ?_)
          refine x_callV (As := [.int (iI (v17)), .int (iI (d)), .int (iI (c)), .int (iI (q + 1)), .long (l20)]) C (by exact (qf_goesTo (t := v17) (d := d) (c := c) (m := q + 1) (p := l20) K1 (by omega) (by omega) (by omega) (by omega) (by omega) (by omega) hH FR.rf hP)) ckX12_411 im_X12_goesTo se_X12_goesTo (nlt rfl) rfl rfl rfl rfl (nle rfl) (by exact ⟨nle rfl, nle rfl⟩) dX12_pathBy_89 ?_
          rintro _ Yy21 ⟨v22, rfl, bv22, cv22, hHy21, hGy21, hPy21⟩
          have hFy21 : FR mdPT X0 Yy21 := FR.tr hF hGy21 (by decide)
          refine Wx_st (st' := [.int (iI (v22))]) rfl ?_
          refine x_if_eq (tgt := 99) C dX12_pathBy_92 (by decide) ⟨by omega, by omega⟩ (fun h23 => ?_) (fun h23 => ?_)
          · refine x_iconst C dX12_pathBy_99 ?_
            refine x_istore (lv' := [(11, .int (iI (0))), (10, .int (iI (d))), (9, .int (iI (o))), (0, .ref 0), (1, .int (iI (sg))), (2, .int (iI (a))), (3, .int (iI (f))), (4, .int (iI (y))), (5, .int (iI (c))), (6, .int (iI (q))), (7, .long (p))]) C dX12_pathBy_100 (nlt rfl) rfl ?_
            refine x_iload C dX12_pathBy_102 rfl ?_
            refine x_if_ne (tgt := 112) C dX12_pathBy_104 (by decide) ⟨by omega, by omega⟩ (fun h24 => ?_) (fun h24 => ?_)
            · refine x_iconst C dX12_pathBy_112 ?_
              refine x_goto (tgt := 117) C dX12_pathBy_113 (by decide) ?_
              refine x_istore (lv' := [(9, .int (iI (1))), (11, .int (iI (0))), (10, .int (iI (d))), (0, .ref 0), (1, .int (iI (sg))), (2, .int (iI (a))), (3, .int (iI (f))), (4, .int (iI (y))), (5, .int (iI (c))), (6, .int (iI (q))), (7, .long (p))]) C dX12_pathBy_117 (nlt rfl) rfl ?_
              refine x_iinc (lv' := [(10, .int (iI (d + 1))), (9, .int (iI (1))), (11, .int (iI (0))), (0, .ref 0), (1, .int (iI (sg))), (2, .int (iI (a))), (3, .int (iI (f))), (4, .int (iI (y))), (5, .int (iI (c))), (6, .int (iI (q))), (7, .long (p))]) C dX12_pathBy_119 rfl (nlt rfl) rfl ?_
              refine x_goto (tgt := 46) C dX12_pathBy_122 (by decide) ?_
              refine Wx_pick [10, 9, 0, 1, 2, 3, 4, 5, 6, 7] ?_
              refine Wx_lv (lv' := [(10, .int (iI (d + 1))), (9, .int (iI (1))), (0, .ref 0), (1, .int (iI (sg))), (2, .int (iI (a))), (3, .int (iI (f))), (4, .int (iI (y))), (5, .int (iI (c))), (6, .int (iI (q))), (7, .long (p))]) rfl ?_
              exact ih _ _ _ (by omega) (by omega) (by omega) (by omega) (by omega) hHy21 hFy21 hPy21
            · refine x_iload C dX12_pathBy_107 rfl ?_
              refine x_if_eq (tgt := 116) C dX12_pathBy_109 (by decide) ⟨by omega, by omega⟩ (fun h25 => ?_) (fun h25 => by exfalso; omega)
              refine x_iconst C dX12_pathBy_116 ?_
              refine x_istore (lv' := [(9, .int (iI (0))), (11, .int (iI (0))), (10, .int (iI (d))), (0, .ref 0), (1, .int (iI (sg))), (2, .int (iI (a))), (3, .int (iI (f))), (4, .int (iI (y))), (5, .int (iI (c))), (6, .int (iI (q))), (7, .long (p))]) C dX12_pathBy_117 (nlt rfl) rfl ?_
              refine x_iinc (lv' := [(10, .int (iI (d + 1))), (9, .int (iI (0))), (11, .int (iI (0))), (0, .ref 0), (1, .int (iI (sg))), (2, .int (iI (a))), (3, .int (iI (f))), (4, .int (iI (y))), (5, .int (iI (c))), (6, .int (iI (q))), (7, .long (p))]) C dX12_pathBy_119 rfl (nlt rfl) rfl ?_
              refine x_goto (tgt := 46) C dX12_pathBy_122 (by decide) ?_
              refine Wx_pick [10, 9, 0, 1, 2, 3, 4, 5, 6, 7] ?_
              refine Wx_lv (lv' := [(10, .int (iI (d + 1))), (9, .int (iI (0))), (0, .ref 0), (1, .int (iI (sg))), (2, .int (iI (a))), (3, .int (iI (f))), (4, .int (iI (y))), (5, .int (iI (c))), (6, .int (iI (q))), (7, .long (p))]) rfl ?_
              exact ih _ _ _ (by omega) (by omega) (by omega) (by omega) (by omega) hHy21 hFy21 hPy21
          · refine x_iconst C dX12_pathBy_95 ?_
            refine x_goto (tgt := 100) C dX12_pathBy_96 (by decide) ?_
            refine x_istore (lv' := [(11, .int (iI (1))), (10, .int (iI (d))), (9, .int (iI (o))), (0, .ref 0), (1, .int (iI (sg))), (2, .int (iI (a))), (3, .int (iI (f))), (4, .int (iI (y))), (5, .int (iI (c))), (6, .int (iI (q))), (7, .long (p))]) C dX12_pathBy_100 (nlt rfl) rfl ?_
            refine x_iload C dX12_pathBy_102 rfl ?_
            refine x_if_ne (tgt := 112) C dX12_pathBy_104 (by decide) ⟨by omega, by omega⟩ (fun h26 => ?_) (fun h26 => ?_)
            · refine x_iconst C dX12_pathBy_112 ?_
              refine x_goto (tgt := 117) C dX12_pathBy_113 (by decide) ?_
              refine x_istore (lv' := [(9, .int (iI (1))), (11, .int (iI (1))), (10, .int (iI (d))), (0, .ref 0), (1, .int (iI (sg))), (2, .int (iI (a))), (3, .int (iI (f))), (4, .int (iI (y))), (5, .int (iI (c))), (6, .int (iI (q))), (7, .long (p))]) C dX12_pathBy_117 (nlt rfl) rfl ?_
              refine x_iinc (lv' := [(10, .int (iI (d + 1))), (9, .int (iI (1))), (11, .int (iI (1))), (0, .ref 0), (1, .int (iI (sg))), (2, .int (iI (a))), (3, .int (iI (f))), (4, .int (iI (y))), (5, .int (iI (c))), (6, .int (iI (q))), (7, .long (p))]) C dX12_pathBy_119 rfl (nlt rfl) rfl ?_
              refine x_goto (tgt := 46) C dX12_pathBy_122 (by decide) ?_
              refine Wx_pick [10, 9, 0, 1, 2, 3, 4, 5, 6, 7] ?_
              refine Wx_lv (lv' := [(10, .int (iI (d + 1))), (9, .int (iI (1))), (0, .ref 0), (1, .int (iI (sg))), (2, .int (iI (a))), (3, .int (iI (f))), (4, .int (iI (y))), (5, .int (iI (c))), (6, .int (iI (q))), (7, .long (p))]) rfl ?_
              exact ih _ _ _ (by omega) (by omega) (by omega) (by omega) (by omega) hHy21 hFy21 hPy21
            · refine x_iload C dX12_pathBy_107 rfl ?_
              refine x_if_eq (tgt := 116) C dX12_pathBy_109 (by decide) ⟨by omega, by omega⟩ (fun h27 => by exfalso; omega) (fun h27 => ?_)
              refine x_iconst C dX12_pathBy_112 ?_
              refine x_goto (tgt := 117) C dX12_pathBy_113 (by decide) ?_
              refine x_istore (lv' := [(9, .int (iI (1))), (11, .int (iI (1))), (10, .int (iI (d))), (0, .ref 0), (1, .int (iI (sg))), (2, .int (iI (a))), (3, .int (iI (f))), (4, .int (iI (y))), (5, .int (iI (c))), (6, .int (iI (q))), (7, .long (p))]) C dX12_pathBy_117 (nlt rfl) rfl ?_
              refine x_iinc (lv' := [(10, .int (iI (d + 1))), (9, .int (iI (1))), (11, .int (iI (1))), (0, .ref 0), (1, .int (iI (sg))), (2, .int (iI (a))), (3, .int (iI (f))), (4, .int (iI (y))), (5, .int (iI (c))), (6, .int (iI (q))), (7, .long (p))]) C dX12_pathBy_119 rfl (nlt rfl) rfl ?_
              refine x_goto (tgt := 46) C dX12_pathBy_122 (by decide) ?_
              refine Wx_pick [10, 9, 0, 1, 2, 3, 4, 5, 6, 7] ?_
              refine Wx_lv (lv' := [(10, .int (iI (d + 1))), (9, .int (iI (1))), (0, .ref 0), (1, .int (iI (sg))), (2, .int (iI (a))), (3, .int (iI (f))), (4, .int (iI (y))), (5, .int (iI (c))), (6, .int (iI (q))), (7, .long (p))]) rfl ?_
              exact ih _ _ _ (by omega) (by omega) (by omega) (by omega) (by omega) hHy21 hFy21 hPy21
set_option maxHeartbeats 4000000 in
set_option maxRecDepth 100000 in
theorem qf_pathBy {D : va_G} {ad : Nat → Nat} {cA : Nat → ClassId} {X : XT} {sg a : Int} {K J : Int} (K1 : K ≤ 1000) (s0 : 0 ≤ sg) (s1 : sg ≤ 10) (a0 : 0 ≤ a) (a1 : a ≤ 179) (hH : HG vM X) (hF : FR mdPT X X) (hP : PTH K J X) (hw : 2 ≤ X.1 0 22 ∧ X.1 0 22 ≤ 6) (hh : 2 ≤ X.1 0 23 ∧ X.1 0 23 ≤ 6) (KJ : J + 6 ≤ K) (hc : X.1 26 a.toNat ≠ 0) : MetX (wM D ad cA) yX12_pathBy cX12_pathBy 12 (some .boolean) 4 100 [.ref 0, .int (iI (sg)), .int (iI (a))] X (fun r X1 => ∃ u : Int, r = some (.int (iI u)) ∧ 0 ≤ u ∧ u ≤ 1 ∧ HG vM X1 ∧ FR mdPT X X1 ∧ PTH K J X1) := by
  refine MetX.mk (own := RX12) (by decide +kernel) rfl (nle rfl) (fun E C hQ => ?_)
  refine Wx_lv (lv' := [(0, .ref 0), (1, .int (iI (sg))), (2, .int (iI (a)))]) rfl ?_
  refine x_iload_n (i := 2) C dX12_pathBy_0 rfl rfl ?_
  refine x_bipush C dX12_pathBy_1 (by decide) ?_
  refine x_irem C dX12_pathBy_3 (by omega) (by omega) ⟨by omega, by omega⟩ ⟨by omega, by omega⟩ ?_
  refine x_gen (fun v1 ev1 => ?_)
  refine x_istore_n (i := 3) (lv' := [(3, .int (iI (v1))), (0, .ref 0), (1, .int (iI (sg))), (2, .int (iI (a)))]) C dX12_pathBy_4 rfl (nlt rfl) rfl ?_
  refine x_iload_n (i := 2) C dX12_pathBy_5 rfl rfl ?_
  refine x_bipush C dX12_pathBy_6 (by decide) ?_
  refine x_idiv C dX12_pathBy_8 (by omega) (by omega) ⟨by omega, by omega⟩ ⟨by omega, by omega⟩ ?_
  refine x_gen (fun v2 ev2 => ?_)
  refine x_istore (lv' := [(4, .int (iI (v2))), (3, .int (iI (v1))), (0, .ref 0), (1, .int (iI (sg))), (2, .int (iI (a)))]) C dX12_pathBy_9 (nlt rfl) rfl ?_
  refine x_aload_n (i := 0) C dX12_pathBy_11 rfl rfl ?_
  refine x_getRs (r := 26) C fkM_X12_87 (nlt rfl) rfl (HG.rR hH (k := 0) (i := 47) rfl rfl) dX12_pathBy_12 ?_
  refine x_iload_n (i := 2) C dX12_pathBy_15 rfl rfl ?_
  refine x_iald C (nlt rfl) rfl rfl (nle rfl) (by omega) (by omega) dX12_pathBy_16 ?_
  refine x_gen (fun v3 ev3 => ?_)
  have qv3 : ((-2147483648) : Int) ≤ v3 ∧ v3 ≤ (2147483647 : Int) := by
    rw [ev3]
    exact hH.rA (k := 26) (n := 180) (p := ((-2147483648), 2147483647)) (nlt rfl) rfl (by decide +kernel) (by omega)
  refine x_istore (lv' := [(5, .int (iI (v3))), (4, .int (iI (v2))), (3, .int (iI (v1))), (0, .ref 0), (1, .int (iI (sg))), (2, .int (iI (a)))]) C dX12_pathBy_17 (nlt rfl) rfl ?_
  refine x_aload_n (i := 0) C dX12_pathBy_19 rfl rfl ?_
  refine x_getRs (r := 29) C fkM_X12_96 (nlt rfl) rfl (HG.rR hH (k := 0) (i := 50) rfl rfl) dX12_pathBy_20 ?_
  refine x_iload_n (i := 2) C dX12_pathBy_23 rfl rfl ?_
  refine x_iald C (nlt rfl) rfl rfl (nle rfl) (by omega) (by omega) dX12_pathBy_24 ?_
  refine x_gen (fun v4 ev4 => ?_)
  have qv4 : (0 : Int) ≤ v4 ∧ v4 ≤ (1000 : Int) := by
    rw [ev4]
    exact hH.rA (k := 29) (n := 180) (p := (0, 1000)) (nlt rfl) rfl (by decide +kernel) (by omega)
  refine x_istore (lv' := [(6, .int (iI (v4))), (5, .int (iI (v3))), (4, .int (iI (v2))), (3, .int (iI (v1))), (0, .ref 0), (1, .int (iI (sg))), (2, .int (iI (a)))]) C dX12_pathBy_25 (nlt rfl) rfl ?_
  have jv4 : v4 ≤ J := by
    rw [ev4]
    exact hP.2 a.toNat (by omega) hc
  refine x_aload_n (i := 0) C dX12_pathBy_27 rfl rfl ?_
  refine x_getRs (r := 32) C fkM_X12_105 (nlt rfl) rfl (HG.rR hH (k := 0) (i := 53) rfl rfl) dX12_pathBy_28 ?_
  refine x_iload_n (i := 2) C dX12_pathBy_31 rfl rfl ?_
  refine x_lald C (nlt rfl) rfl rfl (nle rfl) (by omega) (by omega) dX12_pathBy_32 ?_
  refine x_genL (fun l5 el5 => ?_)
  refine x_lstore (lv' := [(7, .long (l5)), (6, .int (iI (v4))), (5, .int (iI (v3))), (4, .int (iI (v2))), (3, .int (iI (v1))), (0, .ref 0), (1, .int (iI (sg))), (2, .int (iI (a)))]) C dX12_pathBy_33 (nlt rfl) rfl ?_
  refine x_iload_n (i := 1) C dX12_pathBy_35 rfl rfl ?_
  refine x_iconst C dX12_pathBy_36 ?_
  refine x_icmp_gt (tgt := 128) C dX12_pathBy_37 (by decide) ⟨by omega, by omega⟩ ⟨by omega, by omega⟩ (fun h6 => ?_) (fun h6 => ?_)
  · refine x_iload_n (i := 1) C dX12_pathBy_128 rfl rfl ?_
    refine x_iconst C dX12_pathBy_129 ?_
    refine x_icmp_ne (tgt := 161) C dX12_pathBy_130 (by decide) ⟨by omega, by omega⟩ ⟨by omega, by omega⟩ (fun h7 => ?_) (fun h7 => ?_)
    · refine x_iload_n (i := 1) C dX12_pathBy_161 rfl rfl ?_
      refine x_bipush C dX12_pathBy_162 (by decide) ?_
      refine x_icmp_eq (tgt := 186) C dX12_pathBy_164 (by decide) ⟨by omega, by omega⟩ ⟨by omega, by omega⟩ (fun h8 => ?_) (fun h8 => ?_)
      · refine x_iconst C dX12_pathBy_186 ?_
        refine x_goto (tgt := 191) C dX12_pathBy_187 (by decide) ?_
        refine x_istore (lv' := [(9, .int (iI (1))), (7, .long (l5)), (6, .int (iI (v4))), (5, .int (iI (v3))), (4, .int (iI (v2))), (3, .int (iI (v1))), (0, .ref 0), (1, .int (iI (sg))), (2, .int (iI (a)))]) C dX12_pathBy_191 (nlt rfl) rfl ?_
        refine x_iload C dX12_pathBy_193 rfl ?_
        refine x_if_eq (tgt := 211) C dX12_pathBy_195 (by decide) ⟨by omega, by omega⟩ (fun h9 => by exfalso; omega) (fun h9 => ?_)
        refine x_aload_n (i := 0) C dX12_pathBy_198 rfl rfl ?_
        refine x_iload_n (i := 3) C dX12_pathBy_199 rfl rfl ?_
        refine x_iload C dX12_pathBy_200 rfl ?_
        refine x_iload C dX12_pathBy_202 rfl ?_
        refine x_iload C dX12_pathBy_204 rfl ?_
        refine x_lload C dX12_pathBy_206 rfl ?_
        refine x_callV (As := [.int (iI (v1)), .int (iI (v2)), .int (iI (v3)), .int (iI (v4)), .long (l5)]) C (by exact (qf_comesTo (f := v1) (d := v2) (c := v3) (m := v4) (p := l5) (by omega) (by omega) (by omega) (by omega) (by omega) (by omega) K1 hH FR.rf hP)) ckX12_405 im_X12_comesTo se_X12_comesTo (nlt rfl) rfl rfl rfl rfl (nle rfl) (by exact ⟨nle rfl, nle rfl⟩) dX12_pathBy_208 ?_
        rintro _ Yy10 ⟨rfl, hHy10, hGy10, hPy10⟩
        have hFy10 : FR mdPT X Yy10 := FR.tr hF hGy10 (by decide)
        refine Wx_st (st' := []) rfl ?_
        refine x_iload C dX12_pathBy_211 rfl ?_
        exact x_zret C hQ (by omega) dX12_pathBy_213 (⟨_, rfl, by omega, by omega, hHy10, hFy10, hPy10⟩)
      · refine x_aload_n (i := 0) C dX12_pathBy_167 rfl rfl ?_
        refine x_iload_n (i := 3) C dX12_pathBy_168 rfl rfl ?_
        refine x_callV (As := [.int (iI (v1))]) C (by exact (qs_isBeside (f := v1) (by omega) (by omega) hw hh)) ckX12_346 im_X12_isBeside se_X12_isBeside (nlt rfl) rfl rfl rfl rfl (nle rfl) (by exact ⟨nle rfl, nle rfl⟩) dX12_pathBy_169 ?_
        rintro _ Xv11 ⟨hxv11, v11, rfl, bv11, cv11⟩
        rw [hxv11]
        refine Wx_st (st' := [.int (iI (v11))]) rfl ?_
        refine x_iload_n (i := 1) C dX12_pathBy_172 rfl rfl ?_
        refine x_bipush C dX12_pathBy_173 (by decide) ?_
        refine x_icmp_ne (tgt := 182) C dX12_pathBy_175 (by decide) ⟨by omega, by omega⟩ ⟨by omega, by omega⟩ (fun h12 => ?_) (fun h12 => ?_)
        · refine x_iconst C dX12_pathBy_182 ?_
          refine x_icmp_ne (tgt := 190) C dX12_pathBy_183 (by decide) ⟨by omega, by omega⟩ ⟨by omega, by omega⟩ (fun h13 => ?_) (fun h13 => ?_)
          · refine x_iconst C dX12_pathBy_190 ?_
            refine x_istore (lv' := [(9, .int (iI (0))), (7, .long (l5)), (6, .int (iI (v4))), (5, .int (iI (v3))), (4, .int (iI (v2))), (3, .int (iI (v1))), (0, .ref 0), (1, .int (iI (sg))), (2, .int (iI (a)))]) C dX12_pathBy_191 (nlt rfl) rfl ?_
            refine x_iload C dX12_pathBy_193 rfl ?_
            refine x_if_eq (tgt := 211) C dX12_pathBy_195 (by decide) ⟨by omega, by omega⟩ (fun h14 => ?_) (fun h14 => by exfalso; omega)
            refine x_iload C dX12_pathBy_211 rfl ?_
            exact x_zret C hQ (by omega) dX12_pathBy_213 (⟨_, rfl, by omega, by omega, hH, hF, hP⟩)
          · refine x_iconst C dX12_pathBy_186 ?_
            refine x_goto (tgt := 191) C dX12_pathBy_187 (by decide) ?_
            refine x_istore (lv' := [(9, .int (iI (1))), (7, .long (l5)), (6, .int (iI (v4))), (5, .int (iI (v3))), (4, .int (iI (v2))), (3, .int (iI (v1))), (0, .ref 0), (1, .int (iI (sg))), (2, .int (iI (a)))]) C dX12_pathBy_191 (nlt rfl) rfl ?_
            refine x_iload C dX12_pathBy_193 rfl ?_
            refine x_if_eq (tgt := 211) C dX12_pathBy_195 (by decide) ⟨by omega, by omega⟩ (fun h15 => by exfalso; omega) (fun h15 => ?_)
            refine x_aload_n (i := 0) C dX12_pathBy_198 rfl rfl ?_
            refine x_iload_n (i := 3) C dX12_pathBy_199 rfl rfl ?_
            refine x_iload C dX12_pathBy_200 rfl ?_
            refine x_iload C dX12_pathBy_202 rfl ?_
            refine x_iload C dX12_pathBy_204 rfl ?_
            refine x_lload C dX12_pathBy_206 rfl ?_
            refine x_callV (As := [.int (iI (v1)), .int (iI (v2)), .int (iI (v3)), .int (iI (v4)), .long (l5)]) C (by exact (qf_comesTo (f := v1) (d := v2) (c := v3) (m := v4) (p := l5) (by omega) (by omega) (by omega) (by omega) (by omega) (by omega) K1 hH FR.rf hP)) ckX12_405 im_X12_comesTo se_X12_comesTo (nlt rfl) rfl rfl rfl rfl (nle rfl) (by exact ⟨nle rfl, nle rfl⟩) dX12_pathBy_208 ?_
            rintro _ Yy16 ⟨rfl, hHy16, hGy16, hPy16⟩
            have hFy16 : FR mdPT X Yy16 := FR.tr hF hGy16 (by decide)
            refine Wx_st (st' := []) rfl ?_
            refine x_iload C dX12_pathBy_211 rfl ?_
            exact x_zret C hQ (by omega) dX12_pathBy_213 (⟨_, rfl, by omega, by omega, hHy16, hFy16, hPy16⟩)
        · refine x_iconst C dX12_pathBy_178 ?_
          refine x_goto (tgt := 183) C dX12_pathBy_179 (by decide) ?_
          refine x_icmp_ne (tgt := 190) C dX12_pathBy_183 (by decide) ⟨by omega, by omega⟩ ⟨by omega, by omega⟩ (fun h17 => ?_) (fun h17 => ?_)
          · refine x_iconst C dX12_pathBy_190 ?_
            refine x_istore (lv' := [(9, .int (iI (0))), (7, .long (l5)), (6, .int (iI (v4))), (5, .int (iI (v3))), (4, .int (iI (v2))), (3, .int (iI (v1))), (0, .ref 0), (1, .int (iI (sg))), (2, .int (iI (a)))]) C dX12_pathBy_191 (nlt rfl) rfl ?_
            refine x_iload C dX12_pathBy_193 rfl ?_
            refine x_if_eq (tgt := 211) C dX12_pathBy_195 (by decide) ⟨by omega, by omega⟩ (fun h18 => ?_) (fun h18 => by exfalso; omega)
            refine x_iload C dX12_pathBy_211 rfl ?_
            exact x_zret C hQ (by omega) dX12_pathBy_213 (⟨_, rfl, by omega, by omega, hH, hF, hP⟩)
          · refine x_iconst C dX12_pathBy_186 ?_
            refine x_goto (tgt := 191) C dX12_pathBy_187 (by decide) ?_
            refine x_istore (lv' := [(9, .int (iI (1))), (7, .long (l5)), (6, .int (iI (v4))), (5, .int (iI (v3))), (4, .int (iI (v2))), (3, .int (iI (v1))), (0, .ref 0), (1, .int (iI (sg))), (2, .int (iI (a)))]) C dX12_pathBy_191 (nlt rfl) rfl ?_
            refine x_iload C dX12_pathBy_193 rfl ?_
            refine x_if_eq (tgt := 211) C dX12_pathBy_195 (by decide) ⟨by omega, by omega⟩ (fun h19 => by exfalso; omega) (fun h19 => ?_)
            refine x_aload_n (i := 0) C dX12_pathBy_198 rfl rfl ?_
            refine x_iload_n (i := 3) C dX12_pathBy_199 rfl rfl ?_
            refine x_iload C dX12_pathBy_200 rfl ?_
            refine x_iload C dX12_pathBy_202 rfl ?_
            refine x_iload C dX12_pathBy_204 rfl ?_
            refine x_lload C dX12_pathBy_206 rfl ?_
            refine x_callV (As := [.int (iI (v1)), .int (iI (v2)), .int (iI (v3)), .int (iI (v4)), .long (l5)]) C (by exact (qf_comesTo (f := v1) (d := v2) (c := v3) (m := v4) (p := l5) (by omega) (by omega) (by omega) (by omega) (by omega) (by omega) K1 hH FR.rf hP)) ckX12_405 im_X12_comesTo se_X12_comesTo (nlt rfl) rfl rfl rfl rfl (nle rfl) (by exact ⟨nle rfl, nle rfl⟩) dX12_pathBy_208 ?_
            rintro _ Yy20 ⟨rfl, hHy20, hGy20, hPy20⟩
            have hFy20 : FR mdPT X Yy20 := FR.tr hF hGy20 (by decide)
            refine Wx_st (st' := []) rfl ?_
            refine x_iload C dX12_pathBy_211 rfl ?_
            exact x_zret C hQ (by omega) dX12_pathBy_213 (⟨_, rfl, by omega, by omega, hHy20, hFy20, hPy20⟩)
    · refine x_iload C dX12_pathBy_133 rfl ?_
      refine x_iconst C dX12_pathBy_135 ?_
      refine x_icmp_ge (tgt := 159) C dX12_pathBy_136 (by decide) ⟨by omega, by omega⟩ ⟨by omega, by omega⟩ (fun h21 => ?_) (fun h21 => ?_)
      · refine x_iconst C dX12_pathBy_159 ?_
        exact x_zret C hQ (by omega) dX12_pathBy_160 (⟨_, rfl, by omega, by omega, hH, hF, hP⟩)
      · refine x_aload_n (i := 0) C dX12_pathBy_139 rfl rfl ?_
        refine x_iload_n (i := 3) C dX12_pathBy_140 rfl rfl ?_
        refine x_iload C dX12_pathBy_141 rfl ?_
        refine x_iload C dX12_pathBy_143 rfl ?_
        refine x_iload C dX12_pathBy_145 rfl ?_
        refine x_lload C dX12_pathBy_147 rfl ?_
        refine x_callV (As := [.int (iI (v1)), .int (iI (v2)), .int (iI (v3)), .int (iI (v4)), .long (l5)]) C (by exact (qf_pathOn (f := v1) (d := v2) (c := v3) (m := v4) (p := l5) K1 (by omega) (by omega) hH FR.rf hP hw hh (by omega) (by omega) (by omega) (by omega))) ckX12_415 im_X12_pathOn se_X12_pathOn (nlt rfl) rfl rfl rfl rfl (nle rfl) (by exact ⟨nle rfl, nle rfl⟩) dX12_pathBy_149 ?_
        rintro _ Yy22 ⟨v23, rfl, bv23, cv23, hHy22, hGy22, hPy22⟩
        have hFy22 : FR mdPT X Yy22 := FR.tr hF hGy22 (by decide)
        refine Wx_st (st' := [.int (iI (v23))]) rfl ?_
        refine x_if_eq (tgt := 159) C dX12_pathBy_152 (by decide) ⟨by omega, by omega⟩ (fun h24 => ?_) (fun h24 => ?_)
        · refine x_iconst C dX12_pathBy_159 ?_
          exact x_zret C hQ (by omega) dX12_pathBy_160 (⟨_, rfl, by omega, by omega, hHy22, hFy22, hPy22⟩)
        · refine x_iconst C dX12_pathBy_155 ?_
          refine x_goto (tgt := 160) C dX12_pathBy_156 (by decide) ?_
          exact x_zret C hQ (by omega) dX12_pathBy_160 (⟨_, rfl, by omega, by omega, hHy22, hFy22, hPy22⟩)
  · refine x_iconst C dX12_pathBy_40 ?_
    refine x_istore (lv' := [(9, .int (iI (0))), (7, .long (l5)), (6, .int (iI (v4))), (5, .int (iI (v3))), (4, .int (iI (v2))), (3, .int (iI (v1))), (0, .ref 0), (1, .int (iI (sg))), (2, .int (iI (a)))]) C dX12_pathBy_41 (nlt rfl) rfl ?_
    refine x_iconst C dX12_pathBy_43 ?_
    refine x_istore (lv' := [(10, .int (iI (0))), (9, .int (iI (0))), (7, .long (l5)), (6, .int (iI (v4))), (5, .int (iI (v3))), (4, .int (iI (v2))), (3, .int (iI (v1))), (0, .ref 0), (1, .int (iI (sg))), (2, .int (iI (a)))]) C dX12_pathBy_44 (nlt rfl) rfl ?_
    refine Wx_pick [10, 9, 0, 1, 2, 3, 4, 5, 6, 7] ?_
    refine Wx_lv (lv' := [(10, .int (iI (0))), (9, .int (iI (0))), (0, .ref 0), (1, .int (iI (sg))), (2, .int (iI (a))), (3, .int (iI (v1))), (4, .int (iI (v2))), (5, .int (iI (v3))), (6, .int (iI (v4))), (7, .long (l5))]) rfl ?_
    exact lf_pathBy K1 (by omega) (by omega) s0 s1 (by omega) (by omega) hw hh C hQ 5 0 0 X (by omega) (by omega) (by omega) (by omega) (by omega) hH FR.rf hP
abbrev mdPB : List (Nat × Option Nat) := (26, none) :: (29, none) :: (32, none) :: mdPT
set_option maxHeartbeats 4000000 in
set_option maxRecDepth 100000 in
theorem lf_pathsBy3 {D : va_G} {ad : Nat → Nat} {cA : Nat → ClassId} {X0 : XT} {sg my J : Int} (s0 : 0 ≤ sg) (s1 : sg ≤ 10) (y0 : 0 ≤ my) (y1 : my ≤ 1) (J1 : J + 6 ≤ 1000) (J0 : 0 ≤ J) (hw0 : 2 ≤ X0.1 0 22 ∧ X0.1 0 22 ≤ 6) (hh0 : 2 ≤ X0.1 0 23 ∧ X0.1 0 23 ≤ 6) {E : ET} (C : CX E (wM D ad cA) cX12_pathsBy 4 RX12 none { frames := 5, cells := 0, slots := 0, locals := 131 }) (hQ : EQ E (wM D ad cA) (fun r X1 => r = none ∧ HG vM X1 ∧ FR mdPB X0 X1 ∧ bdC 26 29 180 (J + 6) X1)) : ∀ (n : Nat) (i : Int) (X : XT), 180 - i < n → 0 ≤ i → i ≤ 180 → HG vM X → FR mdPB X0 X → bdC 27 30 180 (J + 6) X → (∀ j : Nat, (j : Int) < i → X.1 26 j ≠ 0 → X.1 29 j ≤ J + 6) → Wx E (wM D ad cA) 4 (PX (wM D ad cA) X) 91 [(3, .int (iI (i))), (0, .ref 0), (1, .int (iI (sg))), (2, .int (iI (my)))] [] := by
  intro n
  induction n with
  | zero => intro i X hn i0 i1 hH hF hct hcn; exfalso; omega
  | succ n ih =>
    intro i X hn i0 i1 hH hF hct hcn
    refine x_iload_n (i := 3) C dX12_pathsBy_91 rfl rfl ?_
    refine x_sipush C dX12_pathsBy_92 (by decide) ?_
    refine x_icmp_ge (tgt := 140) C dX12_pathsBy_95 (by decide) ⟨by omega, by omega⟩ ⟨by omega, by omega⟩ (fun h1 => ?_) (fun h1 => ?_)
    · exact x_vret C hQ dX12_pathsBy_140 (⟨rfl, hH, hF, fun j hj hn => hcn j (by omega) hn⟩)
    · refine x_aload_n (i := 0) C dX12_pathsBy_98 rfl rfl ?_
      refine x_getRs (r := 26) C fkM_X12_87 (nlt rfl) rfl (HG.rR hH (k := 0) (i := 47) rfl rfl) dX12_pathsBy_99 ?_
      refine x_iload_n (i := 3) C dX12_pathsBy_102 rfl rfl ?_
      refine x_aload_n (i := 0) C dX12_pathsBy_103 rfl rfl ?_
      refine x_getRs (r := 27) C fkM_X12_90 (nlt rfl) rfl (HG.rR hH (k := 0) (i := 48) rfl rfl) dX12_pathsBy_104 ?_
      refine x_iload_n (i := 3) C dX12_pathsBy_107 rfl rfl ?_
      refine x_iald C (nlt rfl) rfl rfl (nle rfl) (by omega) (by omega) dX12_pathsBy_108 ?_
      refine x_gen (fun v2 ev2 => ?_)
      have qv2 : ((-2147483648) : Int) ≤ v2 ∧ v2 ≤ (2147483647 : Int) := by
        rw [ev2]
        exact hH.rA (k := 27) (n := 180) (p := ((-2147483648), 2147483647)) (nlt rfl) rfl (by decide +kernel) (by omega)
      refine x_iast C (nlt rfl) rfl rfl (nle rfl) (by omega) (by omega) dX12_pathsBy_109 ?_
      refine x_gX (fun Yy3 eYy3 => ?_)
      have hHy3 : HG vM Yy3 := by
        rw [eYy3]
        exact hg_wA hH (n := 180) (p := ((-2147483648), 2147483647)) (by decide +kernel) (by omega) ⟨by omega, by omega⟩
      have hFy3 : FR mdPB X0 Yy3 := by
        rw [eYy3]
        exact FR.upI hF (rfl)
      refine x_aload_n (i := 0) C dX12_pathsBy_110 rfl rfl ?_
      refine x_getRs (r := 29) C fkM_X12_96 (nlt rfl) rfl (HG.rR hHy3 (k := 0) (i := 50) rfl rfl) dX12_pathsBy_111 ?_
      refine x_iload_n (i := 3) C dX12_pathsBy_114 rfl rfl ?_
      refine x_aload_n (i := 0) C dX12_pathsBy_115 rfl rfl ?_
      refine x_getRs (r := 30) C fkM_X12_99 (nlt rfl) rfl (HG.rR hHy3 (k := 0) (i := 51) rfl rfl) dX12_pathsBy_116 ?_
      refine x_iload_n (i := 3) C dX12_pathsBy_119 rfl rfl ?_
      refine x_iald C (nlt rfl) rfl rfl (nle rfl) (by omega) (by omega) dX12_pathsBy_120 ?_
      refine x_gen (fun v4 ev4 => ?_)
      have qv4 : (0 : Int) ≤ v4 ∧ v4 ≤ (1000 : Int) := by
        rw [ev4]
        exact hHy3.rA (k := 30) (n := 180) (p := (0, 1000)) (nlt rfl) rfl (by decide +kernel) (by omega)
      refine x_iast C (nlt rfl) rfl rfl (nle rfl) (by omega) (by omega) dX12_pathsBy_121 ?_
      refine x_gX (fun Yy5 eYy5 => ?_)
      have hHy5 : HG vM Yy5 := by
        rw [eYy5]
        exact hg_wA hHy3 (n := 180) (p := (0, 1000)) (by decide +kernel) (by omega) ⟨by omega, by omega⟩
      have hFy5 : FR mdPB X0 Yy5 := by
        rw [eYy5]
        exact FR.upI hFy3 (rfl)
      refine x_aload_n (i := 0) C dX12_pathsBy_122 rfl rfl ?_
      refine x_getRs (r := 32) C fkM_X12_105 (nlt rfl) rfl (HG.rR hHy5 (k := 0) (i := 53) rfl rfl) dX12_pathsBy_123 ?_
      refine x_iload_n (i := 3) C dX12_pathsBy_126 rfl rfl ?_
      refine x_aload_n (i := 0) C dX12_pathsBy_127 rfl rfl ?_
      refine x_getRs (r := 33) C fkM_X12_108 (nlt rfl) rfl (HG.rR hHy5 (k := 0) (i := 54) rfl rfl) dX12_pathsBy_128 ?_
      refine x_iload_n (i := 3) C dX12_pathsBy_131 rfl rfl ?_
      refine x_lald C (nlt rfl) rfl rfl (nle rfl) (by omega) (by omega) dX12_pathsBy_132 ?_
      refine x_genL (fun l6 el6 => ?_)
      refine x_last C (nlt rfl) rfl rfl (nle rfl) (by omega) (by omega) dX12_pathsBy_133 ?_
      refine x_gX (fun Yy7 eYy7 => ?_)
      have hHy7 : HG vM Yy7 := by
        rw [eYy7]
        exact hg_wLA hHy5 (n := 180) (p := ((-9223372036854775808), 9223372036854775807)) (by decide +kernel) (by omega) (l64 _)
      have hFy7 : FR mdPB X0 Yy7 := by
        rw [eYy7]
        exact FR.upL hFy5 (rfl)
      refine x_iinc (lv' := [(3, .int (iI (i + 1))), (0, .ref 0), (1, .int (iI (sg))), (2, .int (iI (my)))]) C dX12_pathsBy_134 rfl (nlt rfl) rfl ?_
      refine x_goto (tgt := 91) C dX12_pathsBy_137 (by decide) ?_
      refine Wx_pick [3, 0, 1, 2] ?_
      refine Wx_lv (lv' := [(3, .int (iI (i + 1))), (0, .ref 0), (1, .int (iI (sg))), (2, .int (iI (my)))]) rfl ?_
      refine ih _ _ (by omega) (by omega) (by omega) hHy7 hFy7 (hct.cg (fun k => by rw [eYy7, upL_1, eYy5, upI_nc (by decide), eYy3, upI_nc (by decide)]) (fun k => by rw [eYy7, upL_1, eYy5, upI_nc (by decide), eYy3, upI_nc (by decide)])) (fun j hj hn => ?_)
      by_cases ej : j = i.toNat
      · subst ej
        rw [eYy7, upL_1, eYy5, upI_nc (by decide), eYy3, upI_at] at hn
        rw [eYy7, upL_1, eYy5, upI_at, ev4, eYy3, upI_nc (by decide)]
        exact hct _ (by omega) (by rw [← ev2]; exact hn)
      · rw [eYy7, upL_1, eYy5, upI_nc (by decide), eYy3, upI_ne ej] at hn
        rw [eYy7, upL_1, eYy5, upI_ne ej, eYy3, upI_nc (by decide)]
        exact hcn j (by omega) hn
set_option maxHeartbeats 4000000 in
set_option maxRecDepth 100000 in
theorem lf_pathsBy2 {D : va_G} {ad : Nat → Nat} {cA : Nat → ClassId} {X0 : XT} {sg my J : Int} (s0 : 0 ≤ sg) (s1 : sg ≤ 10) (y0 : 0 ≤ my) (y1 : my ≤ 1) (J1 : J + 6 ≤ 1000) (J0 : 0 ≤ J) (hw0 : 2 ≤ X0.1 0 22 ∧ X0.1 0 22 ≤ 6) (hh0 : 2 ≤ X0.1 0 23 ∧ X0.1 0 23 ≤ 6) {E : ET} (C : CX E (wM D ad cA) cX12_pathsBy 4 RX12 none { frames := 5, cells := 0, slots := 0, locals := 131 }) (hQ : EQ E (wM D ad cA) (fun r X1 => r = none ∧ HG vM X1 ∧ FR mdPB X0 X1 ∧ bdC 26 29 180 (J + 6) X1)) : ∀ (n : Nat) (i : Int) (X : XT), 180 - i < n → 0 ≤ i → i ≤ 180 → HG vM X → FR mdPB X0 X → PTH (J + 6) J X → Wx E (wM D ad cA) 4 (PX (wM D ad cA) X) 24 [(3, .int (iI (i))), (0, .ref 0), (1, .int (iI (sg))), (2, .int (iI (my)))] [] := by
  intro n
  induction n with
  | zero => intro i X hn i0 i1 hH hF hP; exfalso; omega
  | succ n ih =>
    intro i X hn i0 i1 hH hF hP
    have K1 : J + 6 ≤ 1000 := J1
    have hw : 2 ≤ X.1 0 22 ∧ X.1 0 22 ≤ 6 := by rw [(hF 0 22 rfl).1]; exact hw0
    have hh : 2 ≤ X.1 0 23 ∧ X.1 0 23 ≤ 6 := by rw [(hF 0 23 rfl).1]; exact hh0
    refine x_iload_n (i := 3) C dX12_pathsBy_24 rfl rfl ?_
    refine x_sipush C dX12_pathsBy_25 (by decide) ?_
    refine x_icmp_ge (tgt := 89) C dX12_pathsBy_28 (by decide) ⟨by omega, by omega⟩ ⟨by omega, by omega⟩ (fun h1 => ?_) (fun h1 => ?_)
    · refine x_iconst C dX12_pathsBy_89 ?_
      refine x_istore_n (i := 3) (lv' := [(3, .int (iI (0))), (0, .ref 0), (1, .int (iI (sg))), (2, .int (iI (my)))]) C dX12_pathsBy_90 rfl (nlt rfl) rfl ?_
      refine Wx_pick [3, 0, 1, 2] ?_
      refine Wx_lv (lv' := [(3, .int (iI (0))), (0, .ref 0), (1, .int (iI (sg))), (2, .int (iI (my)))]) rfl ?_
      exact lf_pathsBy3 s0 s1 y0 y1 J1 J0 hw0 hh0 C hQ 181 0 X (by omega) (by omega) (by omega) hH hF hP.1 (fun j hj => by omega)
    · refine x_aload_n (i := 0) C dX12_pathsBy_31 rfl rfl ?_
      refine x_getRs (r := 26) C fkM_X12_87 (nlt rfl) rfl (HG.rR hH (k := 0) (i := 47) rfl rfl) dX12_pathsBy_32 ?_
      refine x_iload_n (i := 3) C dX12_pathsBy_35 rfl rfl ?_
      refine x_iald C (nlt rfl) rfl rfl (nle rfl) (by omega) (by omega) dX12_pathsBy_36 ?_
      refine x_gen (fun v2 ev2 => ?_)
      have qv2 : ((-2147483648) : Int) ≤ v2 ∧ v2 ≤ (2147483647 : Int) := by
        rw [ev2]
        exact hH.rA (k := 26) (n := 180) (p := ((-2147483648), 2147483647)) (nlt rfl) rfl (by decide +kernel) (by omega)
      refine x_if_le (tgt := 83) C dX12_pathsBy_37 (by decide) ⟨by omega, by omega⟩ (fun h3 => ?_) (fun h3 => ?_)
      · refine x_iinc (lv' := [(3, .int (iI (i + 1))), (0, .ref 0), (1, .int (iI (sg))), (2, .int (iI (my)))]) C dX12_pathsBy_83 rfl (nlt rfl) rfl ?_
        refine x_goto (tgt := 24) C dX12_pathsBy_86 (by decide) ?_
        refine Wx_pick [3, 0, 1, 2] ?_
        refine Wx_lv (lv' := [(3, .int (iI (i + 1))), (0, .ref 0), (1, .int (iI (sg))), (2, .int (iI (my)))]) rfl ?_
        exact ih _ _ (by omega) (by omega) (by omega) hH hF hP
      · refine x_aload_n (i := 0) C dX12_pathsBy_40 rfl rfl ?_
        refine x_iload_n (i := 1) C dX12_pathsBy_41 rfl rfl ?_
        refine x_iload_n (i := 3) C dX12_pathsBy_42 rfl rfl ?_
        refine x_callV (As := [.int (iI (sg)), .int (iI (i))]) C (by exact (qf_pathBy (sg := sg) (a := i) K1 (by omega) (by omega) (by omega) (by omega) hH FR.rf hP hw hh (by omega) (by rw [← ev2]; omega))) ckX12_418 im_X12_pathBy se_X12_pathBy (nlt rfl) rfl rfl rfl rfl (nle rfl) (by exact ⟨nle rfl, nle rfl⟩) dX12_pathsBy_43 ?_
        rintro _ Yy4 ⟨v5, rfl, bv5, cv5, hHy4, hGy4, hPy4⟩
        have hFy4 : FR mdPB X0 Yy4 := FR.tr hF hGy4 (by decide)
        refine Wx_st (st' := [.int (iI (v5))]) rfl ?_
        refine x_if_ne (tgt := 83) C dX12_pathsBy_46 (by decide) ⟨by omega, by omega⟩ (fun h6 => ?_) (fun h6 => ?_)
        · refine x_iinc (lv' := [(3, .int (iI (i + 1))), (0, .ref 0), (1, .int (iI (sg))), (2, .int (iI (my)))]) C dX12_pathsBy_83 rfl (nlt rfl) rfl ?_
          refine x_goto (tgt := 24) C dX12_pathsBy_86 (by decide) ?_
          refine Wx_pick [3, 0, 1, 2] ?_
          refine Wx_lv (lv' := [(3, .int (iI (i + 1))), (0, .ref 0), (1, .int (iI (sg))), (2, .int (iI (my)))]) rfl ?_
          exact ih _ _ (by omega) (by omega) (by omega) hHy4 hFy4 hPy4
        · refine x_iload_n (i := 2) C dX12_pathsBy_49 rfl rfl ?_
          refine x_if_eq (tgt := 83) C dX12_pathsBy_50 (by decide) ⟨by omega, by omega⟩ (fun h7 => ?_) (fun h7 => ?_)
          · refine x_iinc (lv' := [(3, .int (iI (i + 1))), (0, .ref 0), (1, .int (iI (sg))), (2, .int (iI (my)))]) C dX12_pathsBy_83 rfl (nlt rfl) rfl ?_
            refine x_goto (tgt := 24) C dX12_pathsBy_86 (by decide) ?_
            refine Wx_pick [3, 0, 1, 2] ?_
            refine Wx_lv (lv' := [(3, .int (iI (i + 1))), (0, .ref 0), (1, .int (iI (sg))), (2, .int (iI (my)))]) rfl ?_
            exact ih _ _ (by omega) (by omega) (by omega) hHy4 hFy4 hPy4
          · refine x_aload_n (i := 0) C dX12_pathsBy_53 rfl rfl ?_
            refine x_iload_n (i := 3) C dX12_pathsBy_54 rfl rfl ?_
            refine x_bipush C dX12_pathsBy_55 (by decide) ?_
            refine x_irem C dX12_pathsBy_57 (by omega) (by omega) ⟨by omega, by omega⟩ ⟨by omega, by omega⟩ ?_
            refine x_iload_n (i := 3) C dX12_pathsBy_58 rfl rfl ?_
            refine x_bipush C dX12_pathsBy_59 (by decide) ?_
            refine x_idiv C dX12_pathsBy_61 (by omega) (by omega) ⟨by omega, by omega⟩ ⟨by omega, by omega⟩ ?_
            refine x_aload_n (i := 0) C dX12_pathsBy_62 rfl rfl ?_
            refine x_getRs (r := 26) C fkM_X12_87 (nlt rfl) rfl (HG.rR hHy4 (k := 0) (i := 47) rfl rfl) dX12_pathsBy_63 ?_
            refine x_iload_n (i := 3) C dX12_pathsBy_66 rfl rfl ?_
            refine x_iald C (nlt rfl) rfl rfl (nle rfl) (by omega) (by omega) dX12_pathsBy_67 ?_
            refine x_gen (fun v8 ev8 => ?_)
            have qv8 : ((-2147483648) : Int) ≤ v8 ∧ v8 ≤ (2147483647 : Int) := by
              rw [ev8]
              exact hHy4.rA (k := 26) (n := 180) (p := ((-2147483648), 2147483647)) (nlt rfl) rfl (by decide +kernel) (by omega)
            refine x_aload_n (i := 0) C dX12_pathsBy_68 rfl rfl ?_
            refine x_getRs (r := 29) C fkM_X12_96 (nlt rfl) rfl (HG.rR hHy4 (k := 0) (i := 50) rfl rfl) dX12_pathsBy_69 ?_
            refine x_iload_n (i := 3) C dX12_pathsBy_72 rfl rfl ?_
            refine x_iald C (nlt rfl) rfl rfl (nle rfl) (by omega) (by omega) dX12_pathsBy_73 ?_
            refine x_gen (fun v9 ev9 => ?_)
            have qv9 : (0 : Int) ≤ v9 ∧ v9 ≤ (1000 : Int) := by
              rw [ev9]
              exact hHy4.rA (k := 29) (n := 180) (p := (0, 1000)) (nlt rfl) rfl (by decide +kernel) (by omega)
            have jv9 : v9 ≤ J := by
              rw [ev9]
              refine hPy4.2 _ (by omega) ?_
              rw [← ev8]
              have t26 : v8 = X.1 26 i.toNat := by rw [ev8, (hGy4 26 _ rfl).1]
              omega
            refine x_aload_n (i := 0) C dX12_pathsBy_74 rfl rfl ?_
            refine x_getRs (r := 32) C fkM_X12_105 (nlt rfl) rfl (HG.rR hHy4 (k := 0) (i := 53) rfl rfl) dX12_pathsBy_75 ?_
            refine x_iload_n (i := 3) C dX12_pathsBy_78 rfl rfl ?_
            refine x_lald C (nlt rfl) rfl rfl (nle rfl) (by omega) (by omega) dX12_pathsBy_79 ?_
            refine x_genL (fun l10 el10 => ?_)
            refine x_callV (As := [.int (iI (i % 36)), .int (iI (i / 36)), .int (iI (v8)), .int (iI (v9)), .long (l10)]) C (by exact (qf_comesTo (f := i % 36) (d := i / 36) (c := v8) (m := v9) (p := l10) (by omega) (by omega) (by omega) (by omega) (by omega) (by omega) K1 hHy4 FR.rf hPy4)) ckX12_405 im_X12_comesTo se_X12_comesTo (nlt rfl) rfl rfl rfl rfl (nle rfl) (by exact ⟨nle rfl, nle rfl⟩) dX12_pathsBy_80 ?_
            rintro _ Yy11 ⟨rfl, hHy11, hGy11, hPy11⟩
            have hFy11 : FR mdPB X0 Yy11 := FR.tr hFy4 hGy11 (by decide)
            refine Wx_st (st' := []) rfl ?_
            refine x_iinc (lv' := [(3, .int (iI (i + 1))), (0, .ref 0), (1, .int (iI (sg))), (2, .int (iI (my)))]) C dX12_pathsBy_83 rfl (nlt rfl) rfl ?_
            refine x_goto (tgt := 24) C dX12_pathsBy_86 (by decide) ?_
            refine Wx_pick [3, 0, 1, 2] ?_
            refine Wx_lv (lv' := [(3, .int (iI (i + 1))), (0, .ref 0), (1, .int (iI (sg))), (2, .int (iI (my)))]) rfl ?_
            exact ih _ _ (by omega) (by omega) (by omega) hHy11 hFy11 hPy11
set_option maxHeartbeats 4000000 in
set_option maxRecDepth 100000 in
theorem lf_pathsBy1 {D : va_G} {ad : Nat → Nat} {cA : Nat → ClassId} {X0 : XT} {sg my J : Int} (s0 : 0 ≤ sg) (s1 : sg ≤ 10) (y0 : 0 ≤ my) (y1 : my ≤ 1) (J1 : J + 6 ≤ 1000) (J0 : 0 ≤ J) (hw0 : 2 ≤ X0.1 0 22 ∧ X0.1 0 22 ≤ 6) (hh0 : 2 ≤ X0.1 0 23 ∧ X0.1 0 23 ≤ 6) {E : ET} (C : CX E (wM D ad cA) cX12_pathsBy 4 RX12 none { frames := 5, cells := 0, slots := 0, locals := 131 }) (hQ : EQ E (wM D ad cA) (fun r X1 => r = none ∧ HG vM X1 ∧ FR mdPB X0 X1 ∧ bdC 26 29 180 (J + 6) X1)) : ∀ (n : Nat) (i : Int) (X : XT), 180 - i < n → 0 ≤ i → i ≤ 180 → HG vM X → FR mdPB X0 X → bdC 26 29 180 J X → (∀ j : Nat, (j : Int) < i → X.1 27 j = 0) → Wx E (wM D ad cA) 4 (PX (wM D ad cA) X) 2 [(3, .int (iI (i))), (0, .ref 0), (1, .int (iI (sg))), (2, .int (iI (my)))] [] := by
  intro n
  induction n with
  | zero => intro i X hn i0 i1 hH hF hcn hz; exfalso; omega
  | succ n ih =>
    intro i X hn i0 i1 hH hF hcn hz
    refine x_iload_n (i := 3) C dX12_pathsBy_2 rfl rfl ?_
    refine x_sipush C dX12_pathsBy_3 (by decide) ?_
    refine x_icmp_ge (tgt := 22) C dX12_pathsBy_6 (by decide) ⟨by omega, by omega⟩ ⟨by omega, by omega⟩ (fun h1 => ?_) (fun h1 => ?_)
    · refine x_iconst C dX12_pathsBy_22 ?_
      refine x_istore_n (i := 3) (lv' := [(3, .int (iI (0))), (0, .ref 0), (1, .int (iI (sg))), (2, .int (iI (my)))]) C dX12_pathsBy_23 rfl (nlt rfl) rfl ?_
      refine Wx_pick [3, 0, 1, 2] ?_
      refine Wx_lv (lv' := [(3, .int (iI (0))), (0, .ref 0), (1, .int (iI (sg))), (2, .int (iI (my)))]) rfl ?_
      exact lf_pathsBy2 s0 s1 y0 y1 J1 J0 hw0 hh0 C hQ 181 0 X (by omega) (by omega) (by omega) hH hF ⟨fun j hj hn => absurd (hz j (by omega)) hn, hcn⟩
    · refine x_aload_n (i := 0) C dX12_pathsBy_9 rfl rfl ?_
      refine x_getRs (r := 27) C fkM_X12_90 (nlt rfl) rfl (HG.rR hH (k := 0) (i := 48) rfl rfl) dX12_pathsBy_10 ?_
      refine x_iload_n (i := 3) C dX12_pathsBy_13 rfl rfl ?_
      refine x_iconst C dX12_pathsBy_14 ?_
      refine x_iast C (nlt rfl) rfl rfl (nle rfl) (by omega) (by omega) dX12_pathsBy_15 ?_
      refine x_gX (fun Yy2 eYy2 => ?_)
      have hHy2 : HG vM Yy2 := by
        rw [eYy2]
        exact hg_wA hH (n := 180) (p := ((-2147483648), 2147483647)) (by decide +kernel) (by omega) ⟨by omega, by omega⟩
      have hFy2 : FR mdPB X0 Yy2 := by
        rw [eYy2]
        exact FR.upI hF (rfl)
      refine x_iinc (lv' := [(3, .int (iI (i + 1))), (0, .ref 0), (1, .int (iI (sg))), (2, .int (iI (my)))]) C dX12_pathsBy_16 rfl (nlt rfl) rfl ?_
      refine x_goto (tgt := 2) C dX12_pathsBy_19 (by decide) ?_
      refine Wx_pick [3, 0, 1, 2] ?_
      refine Wx_lv (lv' := [(3, .int (iI (i + 1))), (0, .ref 0), (1, .int (iI (sg))), (2, .int (iI (my)))]) rfl ?_
      refine ih _ _ (by omega) (by omega) (by omega) hHy2 hFy2 (hcn.cg (fun k => by rw [eYy2, upI_nc (by decide)]) (fun k => by rw [eYy2, upI_nc (by decide)])) (fun j hj => ?_)
      by_cases ej : j = i.toNat
      · subst ej
        rw [eYy2, upI_at]
      · rw [eYy2, upI_ne ej]
        exact hz j (by omega)
set_option maxHeartbeats 4000000 in
set_option maxRecDepth 100000 in
theorem qf_pathsBy {D : va_G} {ad : Nat → Nat} {cA : Nat → ClassId} {X : XT} {sg my J : Int} (s0 : 0 ≤ sg) (s1 : sg ≤ 10) (y0 : 0 ≤ my) (y1 : my ≤ 1) (J1 : J + 6 ≤ 1000) (J0 : 0 ≤ J) (hH : HG vM X) (hF : FR mdPB X X) (hcn : bdC 26 29 180 J X) (hw : 2 ≤ X.1 0 22 ∧ X.1 0 22 ≤ 6) (hh : 2 ≤ X.1 0 23 ∧ X.1 0 23 ≤ 6) : MetX (wM D ad cA) yX12_pathsBy cX12_pathsBy 4 none 5 131 [.ref 0, .int (iI (sg)), .int (iI (my))] X (fun r X1 => r = none ∧ HG vM X1 ∧ FR mdPB X X1 ∧ bdC 26 29 180 (J + 6) X1) := by
  refine MetX.mk (own := RX12) (by decide +kernel) rfl (nle rfl) (fun E C hQ => ?_)
  refine Wx_lv (lv' := [(0, .ref 0), (1, .int (iI (sg))), (2, .int (iI (my)))]) rfl ?_
  refine x_iconst C dX12_pathsBy_0 ?_
  refine x_istore_n (i := 3) (lv' := [(3, .int (iI (0))), (0, .ref 0), (1, .int (iI (sg))), (2, .int (iI (my)))]) C dX12_pathsBy_1 rfl (nlt rfl) rfl ?_
  refine Wx_pick [3, 0, 1, 2] ?_
  refine Wx_lv (lv' := [(3, .int (iI (0))), (0, .ref 0), (1, .int (iI (sg))), (2, .int (iI (my)))]) rfl ?_
  exact lf_pathsBy1 s0 s1 y0 y1 J1 J0 hw hh C hQ 181 0 X (by omega) (by omega) (by omega) hH FR.rf hcn (fun j hj => by omega)
set_option maxHeartbeats 4000000 in
set_option maxRecDepth 100000 in
theorem qf_isTurn {D : va_G} {ad : Nat → Nat} {cA : Nat → ClassId} {X : XT} {f : Int} (f0 : -1 ≤ f) (f1 : f ≤ 10) : MetX (wM D ad cA) yX12_isTurn cX12_isTurn 1 (some .boolean) 0 0 [.int (iI (f))] X (fun r X' => X' = X ∧ ∃ u : Int, r = some (.int (iI u)) ∧ ((u = 1 ∧ (f = 6 ∨ f = 7)) ∨ (u = 0 ∧ f ≠ 6 ∧ f ≠ 7))) := by
  refine MetX.mk (own := RX12) (by decide +kernel) rfl (nle rfl) (fun E C hQ => ?_)
  refine Wx_lv (lv' := [(0, .int (iI (f)))]) rfl ?_
  refine x_iload_n (i := 0) C dX12_isTurn_0 rfl rfl ?_
  refine x_bipush C dX12_isTurn_1 (by decide) ?_
  refine x_icmp_eq (tgt := 12) C dX12_isTurn_3 (by decide) ⟨by omega, by omega⟩ ⟨by omega, by omega⟩ (fun h1 => ?_) (fun h1 => ?_)
  · refine x_iconst C dX12_isTurn_12 ?_
    refine x_goto (tgt := 17) C dX12_isTurn_13 (by decide) ?_
    exact x_zret C hQ (by omega) dX12_isTurn_17 (⟨rfl, _, rfl, by omega⟩)
  · refine x_iload_n (i := 0) C dX12_isTurn_6 rfl rfl ?_
    refine x_bipush C dX12_isTurn_7 (by decide) ?_
    refine x_icmp_ne (tgt := 16) C dX12_isTurn_9 (by decide) ⟨by omega, by omega⟩ ⟨by omega, by omega⟩ (fun h2 => ?_) (fun h2 => ?_)
    · refine x_iconst C dX12_isTurn_16 ?_
      exact x_zret C hQ (by omega) dX12_isTurn_17 (⟨rfl, _, rfl, by omega⟩)
    · refine x_iconst C dX12_isTurn_12 ?_
      refine x_goto (tgt := 17) C dX12_isTurn_13 (by decide) ?_
      exact x_zret C hQ (by omega) dX12_isTurn_17 (⟨rfl, _, rfl, by omega⟩)
abbrev mdLK : List (Nat × Option Nat) := [(0, some 32), (0, some 33)]
set_option maxHeartbeats 4000000 in
set_option maxRecDepth 100000 in
theorem ls_look {D : va_G} {ad : Nat → Nat} {cA : Nat → ClassId} {X0 : XT} {j : Int} (j0 : 0 ≤ j) (j1 : j ≤ 6) {E : ET} {rm : Room} (C : CX E (wM D ad cA) cX12_look 3 RX12 none rm) (hQ : EQ E (wM D ad cA) (fun r X1 => r = none ∧ HG vM X1 ∧ FR mdLK X0 X1)) : ∀ (n : Nat) (i : Int) (X : XT), 7 - i < n → 0 ≤ i → i ≤ 7 → HG vM X → FR mdLK X0 X → Wx E (wM D ad cA) 3 (PX (wM D ad cA) X) 12 [(2, .int (iI (i))), (0, .ref 0), (1, .int (iI (j)))] [] := by
  intro n
  induction n with
  | zero => intro i X hn i0 i1 hH hF; exfalso; omega
  | succ n ih =>
    intro i X hn i0 i1 hH hF
    refine x_iload_n (i := 2) C dX12_look_12 rfl rfl ?_
    refine x_aload_n (i := 0) C dX12_look_13 rfl rfl ?_
    refine x_getI C fkM_X12_287 (nlt rfl) rfl dX12_look_14 ?_
    refine x_gen (fun v1 ev1 => ?_)
    have qv1 : (0 : Int) ≤ v1 ∧ v1 ≤ (7 : Int) := by
      rw [ev1]
      exact hH.rF (k := 0) (i := 25) rfl rfl
    refine x_icmp_ge (tgt := 113) C dX12_look_17 (by decide) ⟨by omega, by omega⟩ ⟨by omega, by omega⟩ (fun h2 => ?_) (fun h2 => ?_)
    · exact x_vret C hQ dX12_look_113 (⟨rfl, hH, hF⟩)
    · refine x_iload_n (i := 2) C dX12_look_20 rfl rfl ?_
      refine x_iload_n (i := 1) C dX12_look_21 rfl rfl ?_
      refine x_icmp_eq (tgt := 107) C dX12_look_22 (by decide) ⟨by omega, by omega⟩ ⟨by omega, by omega⟩ (fun h3 => ?_) (fun h3 => ?_)
      · refine x_iinc (lv' := [(2, .int (iI (i + 1))), (0, .ref 0), (1, .int (iI (j)))]) C dX12_look_107 rfl (nlt rfl) rfl ?_
        refine x_goto (tgt := 12) C dX12_look_110 (by decide) ?_
        refine Wx_pick [2, 0, 1] ?_
        refine Wx_lv (lv' := [(2, .int (iI (i + 1))), (0, .ref 0), (1, .int (iI (j)))]) rfl ?_
        exact ih _ _ (by omega) (by omega) (by omega) hH hF
      · refine x_aload_n (i := 0) C dX12_look_25 rfl rfl ?_
        refine x_getRs (r := 12) C fkM_X12_44 (nlt rfl) rfl (HG.rR hH (k := 0) (i := 29) rfl rfl) dX12_look_26 ?_
        refine x_iload_n (i := 2) C dX12_look_29 rfl rfl ?_
        refine x_iald C (nlt rfl) rfl rfl (nle rfl) (by omega) (by omega) dX12_look_30 ?_
        refine x_gen (fun v4 ev4 => ?_)
        have qv4 : ((-1) : Int) ≤ v4 ∧ v4 ≤ (35 : Int) := by
          rw [ev4]
          exact hH.rA (k := 12) (n := 7) (p := ((-1), 35)) (nlt rfl) rfl (by decide +kernel) (by omega)
        refine x_iconst C dX12_look_31 ?_
        refine x_icmp_eq (tgt := 107) C dX12_look_32 (by decide) ⟨by omega, by omega⟩ ⟨by omega, by omega⟩ (fun h5 => ?_) (fun h5 => ?_)
        · refine x_iinc (lv' := [(2, .int (iI (i + 1))), (0, .ref 0), (1, .int (iI (j)))]) C dX12_look_107 rfl (nlt rfl) rfl ?_
          refine x_goto (tgt := 12) C dX12_look_110 (by decide) ?_
          refine Wx_pick [2, 0, 1] ?_
          refine Wx_lv (lv' := [(2, .int (iI (i + 1))), (0, .ref 0), (1, .int (iI (j)))]) rfl ?_
          exact ih _ _ (by omega) (by omega) (by omega) hH hF
        · refine x_aload_n (i := 0) C dX12_look_35 rfl rfl ?_
          refine x_dup C dX12_look_36 rfl ?_
          refine x_getL C fkM_X12_312 (nlt rfl) rfl dX12_look_37 ?_
          refine x_genL (fun l6 el6 => ?_)
          have ql6 : (0 : Int) ≤ l6.toInt ∧ l6.toInt ≤ (68719476735 : Int) := by
            rw [el6]
            exact hH.rLF (k := 0) (i := 32) (p := (0, 68719476735)) rfl rfl
          refine x_aload_n (i := 0) C dX12_look_40 rfl rfl ?_
          refine x_getRs (r := 11) C fkM_X12_41 (nlt rfl) rfl (HG.rR hH (k := 0) (i := 28) rfl rfl) dX12_look_41 ?_
          refine x_iload_n (i := 2) C dX12_look_44 rfl rfl ?_
          refine x_iald C (nlt rfl) rfl rfl (nle rfl) (by omega) (by omega) dX12_look_45 ?_
          refine x_gen (fun v7 ev7 => ?_)
          have qv7 : (0 : Int) ≤ v7 ∧ v7 ≤ (1 : Int) := by
            rw [ev7]
            exact hH.rA (k := 11) (n := 7) (p := (0, 1)) (nlt rfl) rfl (by decide +kernel) (by omega)
          refine x_aload_n (i := 0) C dX12_look_46 rfl rfl ?_
          refine x_getRs (r := 11) C fkM_X12_41 (nlt rfl) rfl (HG.rR hH (k := 0) (i := 28) rfl rfl) dX12_look_47 ?_
          refine x_iload_n (i := 1) C dX12_look_50 rfl rfl ?_
          refine x_iald C (nlt rfl) rfl rfl (nle rfl) (by omega) (by omega) dX12_look_51 ?_
          refine x_gen (fun v8 ev8 => ?_)
          have qv8 : (0 : Int) ≤ v8 ∧ v8 ≤ (1 : Int) := by
            rw [ev8]
            exact hH.rA (k := 11) (n := 7) (p := (0, 1)) (nlt rfl) rfl (by decide +kernel) (by omega)
          refine x_icmp_ne (tgt := 66) C dX12_look_52 (by decide) ⟨by omega, by omega⟩ ⟨by omega, by omega⟩ (fun h9 => ?_) (fun h9 => ?_)
          · refine x_lconst C dX12_look_66 ?_
            refine x_eqL (b := 0) rfl ?_
            refine x_lor C dX12_look_67 ?_
            refine x_genL (fun l10 el10 => ?_)
            refine x_putL C pkM_X12_312 (nlt rfl) rfl dX12_look_68 ?_
            refine x_gX (fun Yy11 eYy11 => ?_)
            have hHy11 : HG vM Yy11 := by
              rw [eYy11]
              exact hg_wLF hH (p := (0, 68719476735)) rfl (by rw [el10]; exact m36_or (by assumption) (by first | exact m36_0 | (rw [el9]; exact m36_bit (by omega) (by omega))))
            have hFy11 : FR mdLK X0 Yy11 := by
              rw [eYy11]
              exact FR.upL hF (rfl)
            refine x_aload_n (i := 0) C dX12_look_71 rfl rfl ?_
            refine x_dup C dX12_look_72 rfl ?_
            refine x_getL C fkM_X12_315 (nlt rfl) rfl dX12_look_73 ?_
            refine x_genL (fun l12 el12 => ?_)
            have ql12 : (0 : Int) ≤ l12.toInt ∧ l12.toInt ≤ (68719476735 : Int) := by
              rw [el12]
              exact hHy11.rLF (k := 0) (i := 33) (p := (0, 68719476735)) rfl rfl
            refine x_aload_n (i := 0) C dX12_look_76 rfl rfl ?_
            refine x_getRs (r := 11) C fkM_X12_41 (nlt rfl) rfl (HG.rR hHy11 (k := 0) (i := 28) rfl rfl) dX12_look_77 ?_
            refine x_iload_n (i := 2) C dX12_look_80 rfl rfl ?_
            refine x_iald C (nlt rfl) rfl rfl (nle rfl) (by omega) (by omega) dX12_look_81 ?_
            refine x_gen (fun v13 ev13 => ?_)
            have qv13 : (0 : Int) ≤ v13 ∧ v13 ≤ (1 : Int) := by
              rw [ev13]
              exact hHy11.rA (k := 11) (n := 7) (p := (0, 1)) (nlt rfl) rfl (by decide +kernel) (by omega)
            refine x_aload_n (i := 0) C dX12_look_82 rfl rfl ?_
            refine x_getRs (r := 11) C fkM_X12_41 (nlt rfl) rfl (HG.rR hHy11 (k := 0) (i := 28) rfl rfl) dX12_look_83 ?_
            refine x_iload_n (i := 1) C dX12_look_86 rfl rfl ?_
            refine x_iald C (nlt rfl) rfl rfl (nle rfl) (by omega) (by omega) dX12_look_87 ?_
            refine x_gen (fun v14 ev14 => ?_)
            have qv14 : (0 : Int) ≤ v14 ∧ v14 ≤ (1 : Int) := by
              rw [ev14]
              exact hHy11.rA (k := 11) (n := 7) (p := (0, 1)) (nlt rfl) rfl (by decide +kernel) (by omega)
            refine x_icmp_ne (tgt := 95) C dX12_look_88 (by decide) ⟨by omega, by omega⟩ ⟨by omega, by omega⟩ (fun h15 => ?_) (fun h15 => ?_)
            · refine x_lconst C dX12_look_95 ?_
              refine x_eqL (b := 1) rfl ?_
              refine x_aload_n (i := 0) C dX12_look_96 rfl rfl ?_
              refine x_getRs (r := 12) C fkM_X12_44 (nlt rfl) rfl (HG.rR hHy11 (k := 0) (i := 29) rfl rfl) dX12_look_97 ?_
              refine x_iload_n (i := 2) C dX12_look_100 rfl rfl ?_
              refine x_iald C (nlt rfl) rfl rfl (nle rfl) (by omega) (by omega) dX12_look_101 ?_
              refine x_gen (fun v16 ev16 => ?_)
              have qv16 : ((-1) : Int) ≤ v16 ∧ v16 ≤ (35 : Int) := by
                rw [ev16]
                exact hHy11.rA (k := 12) (n := 7) (p := ((-1), 35)) (nlt rfl) rfl (by decide +kernel) (by omega)
              have rv16 : v16 = v4 := by rw [ev16, eYy11, upL_1, ev4]
              refine x_lshl C dX12_look_102 ?_
              refine x_genL (fun l17 el17 => ?_)
              refine x_lor C dX12_look_103 ?_
              refine x_genL (fun l18 el18 => ?_)
              refine x_putL C pkM_X12_315 (nlt rfl) rfl dX12_look_104 ?_
              refine x_gX (fun Yy19 eYy19 => ?_)
              have hHy19 : HG vM Yy19 := by
                rw [eYy19]
                exact hg_wLF hHy11 (p := (0, 68719476735)) rfl (by rw [el18]; exact m36_or (by assumption) (by first | exact m36_0 | (rw [el17]; exact m36_bit (by omega) (by omega))))
              have hFy19 : FR mdLK X0 Yy19 := by
                rw [eYy19]
                exact FR.upL hFy11 (rfl)
              refine x_iinc (lv' := [(2, .int (iI (i + 1))), (0, .ref 0), (1, .int (iI (j)))]) C dX12_look_107 rfl (nlt rfl) rfl ?_
              refine x_goto (tgt := 12) C dX12_look_110 (by decide) ?_
              refine Wx_pick [2, 0, 1] ?_
              refine Wx_lv (lv' := [(2, .int (iI (i + 1))), (0, .ref 0), (1, .int (iI (j)))]) rfl ?_
              exact ih _ _ (by omega) (by omega) (by omega) hHy19 hFy19
            · refine x_lconst C dX12_look_91 ?_
              refine x_eqL (b := 0) rfl ?_
              refine x_goto (tgt := 103) C dX12_look_92 (by decide) ?_
              refine x_lor C dX12_look_103 ?_
              refine x_genL (fun l20 el20 => ?_)
              refine x_putL C pkM_X12_315 (nlt rfl) rfl dX12_look_104 ?_
              refine x_gX (fun Yy21 eYy21 => ?_)
              have hHy21 : HG vM Yy21 := by
                rw [eYy21]
                exact hg_wLF hHy11 (p := (0, 68719476735)) rfl (by rw [el20]; exact m36_or (by assumption) (by first | exact m36_0 | (rw [el19]; exact m36_bit (by omega) (by omega))))
              have hFy21 : FR mdLK X0 Yy21 := by
                rw [eYy21]
                exact FR.upL hFy11 (rfl)
              refine x_iinc (lv' := [(2, .int (iI (i + 1))), (0, .ref 0), (1, .int (iI (j)))]) C dX12_look_107 rfl (nlt rfl) rfl ?_
              refine x_goto (tgt := 12) C dX12_look_110 (by decide) ?_
              refine Wx_pick [2, 0, 1] ?_
              refine Wx_lv (lv' := [(2, .int (iI (i + 1))), (0, .ref 0), (1, .int (iI (j)))]) rfl ?_
              exact ih _ _ (by omega) (by omega) (by omega) hHy21 hFy21
          · refine x_lconst C dX12_look_55 ?_
            refine x_eqL (b := 1) rfl ?_
            refine x_aload_n (i := 0) C dX12_look_56 rfl rfl ?_
            refine x_getRs (r := 12) C fkM_X12_44 (nlt rfl) rfl (HG.rR hH (k := 0) (i := 29) rfl rfl) dX12_look_57 ?_
            refine x_iload_n (i := 2) C dX12_look_60 rfl rfl ?_
            refine x_iald C (nlt rfl) rfl rfl (nle rfl) (by omega) (by omega) dX12_look_61 ?_
            refine x_gen (fun v22 ev22 => ?_)
            have qv22 : ((-1) : Int) ≤ v22 ∧ v22 ≤ (35 : Int) := by
              rw [ev22]
              exact hH.rA (k := 12) (n := 7) (p := ((-1), 35)) (nlt rfl) rfl (by decide +kernel) (by omega)
            have rv22 : v22 = v4 := by rw [ev22, ev4]
            refine x_lshl C dX12_look_62 ?_
            refine x_genL (fun l23 el23 => ?_)
            refine x_goto (tgt := 67) C dX12_look_63 (by decide) ?_
            refine x_lor C dX12_look_67 ?_
            refine x_genL (fun l24 el24 => ?_)
            refine x_putL C pkM_X12_312 (nlt rfl) rfl dX12_look_68 ?_
            refine x_gX (fun Yy25 eYy25 => ?_)
            have hHy25 : HG vM Yy25 := by
              rw [eYy25]
              exact hg_wLF hH (p := (0, 68719476735)) rfl (by rw [el24]; exact m36_or (by assumption) (by first | exact m36_0 | (rw [el23]; exact m36_bit (by omega) (by omega))))
            have hFy25 : FR mdLK X0 Yy25 := by
              rw [eYy25]
              exact FR.upL hF (rfl)
            refine x_aload_n (i := 0) C dX12_look_71 rfl rfl ?_
            refine x_dup C dX12_look_72 rfl ?_
            refine x_getL C fkM_X12_315 (nlt rfl) rfl dX12_look_73 ?_
            refine x_genL (fun l26 el26 => ?_)
            have ql26 : (0 : Int) ≤ l26.toInt ∧ l26.toInt ≤ (68719476735 : Int) := by
              rw [el26]
              exact hHy25.rLF (k := 0) (i := 33) (p := (0, 68719476735)) rfl rfl
            refine x_aload_n (i := 0) C dX12_look_76 rfl rfl ?_
            refine x_getRs (r := 11) C fkM_X12_41 (nlt rfl) rfl (HG.rR hHy25 (k := 0) (i := 28) rfl rfl) dX12_look_77 ?_
            refine x_iload_n (i := 2) C dX12_look_80 rfl rfl ?_
            refine x_iald C (nlt rfl) rfl rfl (nle rfl) (by omega) (by omega) dX12_look_81 ?_
            refine x_gen (fun v27 ev27 => ?_)
            have qv27 : (0 : Int) ≤ v27 ∧ v27 ≤ (1 : Int) := by
              rw [ev27]
              exact hHy25.rA (k := 11) (n := 7) (p := (0, 1)) (nlt rfl) rfl (by decide +kernel) (by omega)
            refine x_aload_n (i := 0) C dX12_look_82 rfl rfl ?_
            refine x_getRs (r := 11) C fkM_X12_41 (nlt rfl) rfl (HG.rR hHy25 (k := 0) (i := 28) rfl rfl) dX12_look_83 ?_
            refine x_iload_n (i := 1) C dX12_look_86 rfl rfl ?_
            refine x_iald C (nlt rfl) rfl rfl (nle rfl) (by omega) (by omega) dX12_look_87 ?_
            refine x_gen (fun v28 ev28 => ?_)
            have qv28 : (0 : Int) ≤ v28 ∧ v28 ≤ (1 : Int) := by
              rw [ev28]
              exact hHy25.rA (k := 11) (n := 7) (p := (0, 1)) (nlt rfl) rfl (by decide +kernel) (by omega)
            refine x_icmp_ne (tgt := 95) C dX12_look_88 (by decide) ⟨by omega, by omega⟩ ⟨by omega, by omega⟩ (fun h29 => ?_) (fun h29 => ?_)
            · refine x_lconst C dX12_look_95 ?_
              refine x_eqL (b := 1) rfl ?_
              refine x_aload_n (i := 0) C dX12_look_96 rfl rfl ?_
              refine x_getRs (r := 12) C fkM_X12_44 (nlt rfl) rfl (HG.rR hHy25 (k := 0) (i := 29) rfl rfl) dX12_look_97 ?_
              refine x_iload_n (i := 2) C dX12_look_100 rfl rfl ?_
              refine x_iald C (nlt rfl) rfl rfl (nle rfl) (by omega) (by omega) dX12_look_101 ?_
              refine x_gen (fun v30 ev30 => ?_)
              have qv30 : ((-1) : Int) ≤ v30 ∧ v30 ≤ (35 : Int) := by
                rw [ev30]
                exact hHy25.rA (k := 12) (n := 7) (p := ((-1), 35)) (nlt rfl) rfl (by decide +kernel) (by omega)
              have rv30 : v30 = v4 := by rw [ev30, eYy25, upL_1, ev4]
              refine x_lshl C dX12_look_102 ?_
              refine x_genL (fun l31 el31 => ?_)
              refine x_lor C dX12_look_103 ?_
              refine x_genL (fun l32 el32 => ?_)
              refine x_putL C pkM_X12_315 (nlt rfl) rfl dX12_look_104 ?_
              refine x_gX (fun Yy33 eYy33 => ?_)
              have hHy33 : HG vM Yy33 := by
                rw [eYy33]
                exact hg_wLF hHy25 (p := (0, 68719476735)) rfl (by rw [el32]; exact m36_or (by assumption) (by first | exact m36_0 | (rw [el31]; exact m36_bit (by omega) (by omega))))
              have hFy33 : FR mdLK X0 Yy33 := by
                rw [eYy33]
                exact FR.upL hFy25 (rfl)
              refine x_iinc (lv' := [(2, .int (iI (i + 1))), (0, .ref 0), (1, .int (iI (j)))]) C dX12_look_107 rfl (nlt rfl) rfl ?_
              refine x_goto (tgt := 12) C dX12_look_110 (by decide) ?_
              refine Wx_pick [2, 0, 1] ?_
              refine Wx_lv (lv' := [(2, .int (iI (i + 1))), (0, .ref 0), (1, .int (iI (j)))]) rfl ?_
              exact ih _ _ (by omega) (by omega) (by omega) hHy33 hFy33
            · refine x_lconst C dX12_look_91 ?_
              refine x_eqL (b := 0) rfl ?_
              refine x_goto (tgt := 103) C dX12_look_92 (by decide) ?_
              refine x_lor C dX12_look_103 ?_
              refine x_genL (fun l34 el34 => ?_)
              refine x_putL C pkM_X12_315 (nlt rfl) rfl dX12_look_104 ?_
              refine x_gX (fun Yy35 eYy35 => ?_)
              have hHy35 : HG vM Yy35 := by
                rw [eYy35]
                exact hg_wLF hHy25 (p := (0, 68719476735)) rfl (by rw [el34]; exact m36_or (by assumption) (by first | exact m36_0 | (rw [el33]; exact m36_bit (by omega) (by omega))))
              have hFy35 : FR mdLK X0 Yy35 := by
                rw [eYy35]
                exact FR.upL hFy25 (rfl)
              refine x_iinc (lv' := [(2, .int (iI (i + 1))), (0, .ref 0), (1, .int (iI (j)))]) C dX12_look_107 rfl (nlt rfl) rfl ?_
              refine x_goto (tgt := 12) C dX12_look_110 (by decide) ?_
              refine Wx_pick [2, 0, 1] ?_
              refine Wx_lv (lv' := [(2, .int (iI (i + 1))), (0, .ref 0), (1, .int (iI (j)))]) rfl ?_
              exact ih _ _ (by omega) (by omega) (by omega) hHy35 hFy35
set_option maxHeartbeats 4000000 in
set_option maxRecDepth 100000 in
theorem qs_look {D : va_G} {ad : Nat → Nat} {cA : Nat → ClassId} {X : XT} {j : Int} (j0 : 0 ≤ j) (j1 : j ≤ 6) (hH : HG vM X) (hF : FR mdLK X X) : MetX (wM D ad cA) yX12_look cX12_look 3 none 0 0 [.ref 0, .int (iI (j))] X (fun r X1 => r = none ∧ HG vM X1 ∧ FR mdLK X X1) := by
  refine MetX.mk (own := RX12) (by decide +kernel) rfl (nle rfl) (fun E C hQ => ?_)
  refine Wx_lv (lv' := [(0, .ref 0), (1, .int (iI (j)))]) rfl ?_
  refine x_aload_n (i := 0) C dX12_look_0 rfl rfl ?_
  refine x_lconst C dX12_look_1 ?_
  refine x_eqL (b := 0) rfl ?_
  refine x_putL C pkM_X12_312 (nlt rfl) rfl dX12_look_2 ?_
  refine x_gX (fun Yy1 eYy1 => ?_)
  have hHy1 : HG vM Yy1 := by
    rw [eYy1]
    exact hg_wLF hH (p := (0, 68719476735)) rfl (by decide)
  have hFy1 : FR mdLK X Yy1 := by
    rw [eYy1]
    exact FR.upL hF (rfl)
  refine x_aload_n (i := 0) C dX12_look_5 rfl rfl ?_
  refine x_lconst C dX12_look_6 ?_
  refine x_eqL (b := 0) rfl ?_
  refine x_putL C pkM_X12_315 (nlt rfl) rfl dX12_look_7 ?_
  refine x_gX (fun Yy2 eYy2 => ?_)
  have hHy2 : HG vM Yy2 := by
    rw [eYy2]
    exact hg_wLF hHy1 (p := (0, 68719476735)) rfl (by decide)
  have hFy2 : FR mdLK X Yy2 := by
    rw [eYy2]
    exact FR.upL hFy1 (rfl)
  refine x_iconst C dX12_look_10 ?_
  refine x_istore_n (i := 2) (lv' := [(2, .int (iI (0))), (0, .ref 0), (1, .int (iI (j)))]) C dX12_look_11 rfl (nlt rfl) rfl ?_
  refine Wx_pick [2, 0, 1] ?_
  refine Wx_lv (lv' := [(2, .int (iI (0))), (0, .ref 0), (1, .int (iI (j)))]) rfl ?_
  exact ls_look j0 j1 C hQ 8 0 _ (by omega) (by omega) (by omega) hHy2 hFy2
set_option maxHeartbeats 4000000 in
set_option maxRecDepth 100000 in
theorem lf_fp4 {D : va_G} {ad : Nat → Nat} {cA : Nat → ClassId} {X0 : XT} {j : Int} (j0 : 0 ≤ j) (j1 : j ≤ 5) (hw0 : 2 ≤ X0.1 0 22 ∧ X0.1 0 22 ≤ 6) (hh0 : 2 ≤ X0.1 0 23 ∧ X0.1 0 23 ≤ 6) {E : ET} (C : CX E (wM D ad cA) cX12_findPaths 6 RX12 none { frames := 6, cells := 0, slots := 0, locals := 154 }) (hQ : EQ E (wM D ad cA) (fun r X1 => r = none ∧ HG vM X1 ∧ FR (cMd k_M_100) X0 X1)) : ∀ (n : Nat) (i : Int) (X : XT), 180 - i < n → 0 ≤ i → i ≤ 180 → HG vM X → FR (cMd k_M_100) X0 X → Wx E (wM D ad cA) 6 (PX (wM D ad cA) X) 219 [(4, .int (iI (i))), (0, .ref 0)] [] := by
  intro n
  induction n with
  | zero => intro i X hn i0 i1 hH hF; exfalso; omega
  | succ n ih =>
    intro i X hn i0 i1 hH hF
    have hP : PTH 1000 1000 X := PTH_1000 hH
    have J : Int := 0
    have K : Int := 0
    refine x_iload C dX12_findPaths_219 rfl ?_
    refine x_sipush C dX12_findPaths_221 (by decide) ?_
    refine x_icmp_ge (tgt := 273) C dX12_findPaths_224 (by decide) ⟨by omega, by omega⟩ ⟨by omega, by omega⟩ (fun h1 => ?_) (fun h1 => ?_)
    · exact x_vret C hQ dX12_findPaths_273 (⟨rfl, hH, hF⟩)
    · refine x_aload_n (i := 0) C dX12_findPaths_227 rfl rfl ?_
      refine x_getRs (r := 26) C fkM_X12_87 (nlt rfl) rfl (HG.rR hH (k := 0) (i := 47) rfl rfl) dX12_findPaths_228 ?_
      refine x_iload C dX12_findPaths_231 rfl ?_
      refine x_iald C (nlt rfl) rfl rfl (nle rfl) (by omega) (by omega) dX12_findPaths_233 ?_
      refine x_gen (fun v2 ev2 => ?_)
      have qv2 : ((-2147483648) : Int) ≤ v2 ∧ v2 ≤ (2147483647 : Int) := by
        rw [ev2]
        exact hH.rA (k := 26) (n := 180) (p := ((-2147483648), 2147483647)) (nlt rfl) rfl (by decide +kernel) (by omega)
      refine x_if_le (tgt := 267) C dX12_findPaths_234 (by decide) ⟨by omega, by omega⟩ (fun h3 => ?_) (fun h3 => ?_)
      · refine x_iinc (lv' := [(4, .int (iI (i + 1))), (0, .ref 0)]) C dX12_findPaths_267 rfl (nlt rfl) rfl ?_
        refine x_goto (tgt := 219) C dX12_findPaths_270 (by decide) ?_
        refine Wx_pick [4, 0] ?_
        refine Wx_lv (lv' := [(4, .int (iI (i + 1))), (0, .ref 0)]) rfl ?_
        exact ih _ _ (by omega) (by omega) (by omega) hH hF
      · refine x_aload_n (i := 0) C dX12_findPaths_237 rfl rfl ?_
        refine x_iload C dX12_findPaths_238 rfl ?_
        refine x_bipush C dX12_findPaths_240 (by decide) ?_
        refine x_irem C dX12_findPaths_242 (by omega) (by omega) ⟨by omega, by omega⟩ ⟨by omega, by omega⟩ ?_
        refine x_aload_n (i := 0) C dX12_findPaths_243 rfl rfl ?_
        refine x_getRs (r := 26) C fkM_X12_87 (nlt rfl) rfl (HG.rR hH (k := 0) (i := 47) rfl rfl) dX12_findPaths_244 ?_
        refine x_iload C dX12_findPaths_247 rfl ?_
        refine x_iald C (nlt rfl) rfl rfl (nle rfl) (by omega) (by omega) dX12_findPaths_249 ?_
        refine x_gen (fun v4 ev4 => ?_)
        have qv4 : ((-2147483648) : Int) ≤ v4 ∧ v4 ≤ (2147483647 : Int) := by
          rw [ev4]
          exact hH.rA (k := 26) (n := 180) (p := ((-2147483648), 2147483647)) (nlt rfl) rfl (by decide +kernel) (by omega)
        refine x_aload_n (i := 0) C dX12_findPaths_250 rfl rfl ?_
        refine x_getRs (r := 29) C fkM_X12_96 (nlt rfl) rfl (HG.rR hH (k := 0) (i := 50) rfl rfl) dX12_findPaths_251 ?_
        refine x_iload C dX12_findPaths_254 rfl ?_
        refine x_iald C (nlt rfl) rfl rfl (nle rfl) (by omega) (by omega) dX12_findPaths_256 ?_
        refine x_gen (fun v5 ev5 => ?_)
        have qv5 : (0 : Int) ≤ v5 ∧ v5 ≤ (1000 : Int) := by
          rw [ev5]
          exact hH.rA (k := 29) (n := 180) (p := (0, 1000)) (nlt rfl) rfl (by decide +kernel) (by omega)
        refine x_aload_n (i := 0) C dX12_findPaths_257 rfl rfl ?_
        refine x_getRs (r := 32) C fkM_X12_105 (nlt rfl) rfl (HG.rR hH (k := 0) (i := 53) rfl rfl) dX12_findPaths_258 ?_
        refine x_iload C dX12_findPaths_261 rfl ?_
        refine x_lald C (nlt rfl) rfl rfl (nle rfl) (by omega) (by omega) dX12_findPaths_263 ?_
        refine x_genL (fun l6 el6 => ?_)
        refine x_callV (As := [.int (iI (i % 36)), .int (iI (v4)), .int (iI (v5)), .long (l6)]) C (by exact (qf_endsAt (f := i % 36) (c := v4) (m := v5) (p := l6) (by omega) (by omega) (by omega) (by omega) hH FR.rf hP)) ckX12_401 im_X12_endsAt se_X12_endsAt (nlt rfl) rfl rfl rfl rfl (nle rfl) (by exact ⟨nle rfl, nle rfl⟩) dX12_findPaths_264 ?_
        rintro _ Yy7 ⟨rfl, hHy7, hGy7, hPy7⟩
        have hFy7 : FR (cMd k_M_100) X0 Yy7 := FR.tr hF hGy7 (by decide)
        refine Wx_st (st' := []) rfl ?_
        refine x_iinc (lv' := [(4, .int (iI (i + 1))), (0, .ref 0)]) C dX12_findPaths_267 rfl (nlt rfl) rfl ?_
        refine x_goto (tgt := 219) C dX12_findPaths_270 (by decide) ?_
        refine Wx_pick [4, 0] ?_
        refine Wx_lv (lv' := [(4, .int (iI (i + 1))), (0, .ref 0)]) rfl ?_
        exact ih _ _ (by omega) (by omega) (by omega) hHy7 hFy7
set_option maxHeartbeats 4000000 in
set_option maxRecDepth 100000 in
theorem lf_fp3 {D : va_G} {ad : Nat → Nat} {cA : Nat → ClassId} {X0 : XT} {j : Int} (j0 : 0 ≤ j) (j1 : j ≤ 5) (hw0 : 2 ≤ X0.1 0 22 ∧ X0.1 0 22 ≤ 6) (hh0 : 2 ≤ X0.1 0 23 ∧ X0.1 0 23 ≤ 6) {E : ET} (C : CX E (wM D ad cA) cX12_findPaths 6 RX12 none { frames := 6, cells := 0, slots := 0, locals := 154 }) (hQ : EQ E (wM D ad cA) (fun r X1 => r = none ∧ HG vM X1 ∧ FR (cMd k_M_100) X0 X1)) : ∀ (n : Nat) (i : Int) (X : XT), 10 - i < n → 1 ≤ i → i ≤ 10 → HG vM X → FR (cMd k_M_100) X0 X → bdC 26 29 180 (12 * (i - 1)) X → Wx E (wM D ad cA) 6 (PX (wM D ad cA) X) 82 [(3, .int (iI (i))), (0, .ref 0)] [] := by
  intro n
  induction n with
  | zero => intro i X hn i0 i1 hH hF hcn; exfalso; omega
  | succ n ih =>
    intro i X hn i0 i1 hH hF hcn
    have hw : 2 ≤ X.1 0 22 ∧ X.1 0 22 ≤ 6 := by rw [(hF 0 22 rfl).1]; exact hw0
    have hh : 2 ≤ X.1 0 23 ∧ X.1 0 23 ≤ 6 := by rw [(hF 0 23 rfl).1]; exact hh0
    refine x_iload_n (i := 3) C dX12_findPaths_82 rfl rfl ?_
    refine x_aload_n (i := 0) C dX12_findPaths_83 rfl rfl ?_
    refine x_getRs (r := 22) C fkM_X12_75 (nlt rfl) rfl (HG.rR hH (k := 0) (i := 43) rfl rfl) dX12_findPaths_84 ?_
    refine x_iconst C dX12_findPaths_87 ?_
    refine x_iald C (nlt rfl) rfl rfl (nle rfl) (by omega) (by omega) dX12_findPaths_88 ?_
    refine x_gen (fun v1 ev1 => ?_)
    have qv1 : (0 : Int) ≤ v1 ∧ v1 ≤ (9 : Int) := by
      rw [ev1]
      exact hH.rF (k := 22) (i := 0) (p := (0, 9)) rfl rfl
    refine x_icmp_gt (tgt := 216) C dX12_findPaths_89 (by decide) ⟨by omega, by omega⟩ ⟨by omega, by omega⟩ (fun h2 => ?_) (fun h2 => ?_)
    · refine x_iconst C dX12_findPaths_216 ?_
      refine x_istore (lv' := [(4, .int (iI (0))), (3, .int (iI (i))), (0, .ref 0)]) C dX12_findPaths_217 (nlt rfl) rfl ?_
      refine Wx_pick [4, 0] ?_
      refine Wx_lv (lv' := [(4, .int (iI (0))), (0, .ref 0)]) rfl ?_
      exact lf_fp4 j0 j1 hw0 hh0 C hQ 181 0 X (by omega) (by omega) (by omega) hH hF
    · refine x_aload_n (i := 0) C dX12_findPaths_92 rfl rfl ?_
      refine x_getRs (r := 22) C fkM_X12_75 (nlt rfl) rfl (HG.rR hH (k := 0) (i := 43) rfl rfl) dX12_findPaths_93 ?_
      refine x_iload_n (i := 3) C dX12_findPaths_96 rfl rfl ?_
      refine x_iald C (nlt rfl) rfl rfl (nle rfl) (by omega) (by omega) dX12_findPaths_97 ?_
      refine x_gen (fun v3 ev3 => ?_)
      have qv3 : (0 : Int) ≤ v3 ∧ v3 ≤ (10 : Int) := by
        rw [ev3]
        exact hH.rA (k := 22) (n := 10) (p := (0, 10)) (nlt rfl) rfl (by decide +kernel) (by omega)
      refine x_istore (lv' := [(4, .int (iI (v3))), (3, .int (iI (i))), (0, .ref 0)]) C dX12_findPaths_98 (nlt rfl) rfl ?_
      refine x_iload_n (i := 3) C dX12_findPaths_100 rfl rfl ?_
      refine x_aload_n (i := 0) C dX12_findPaths_101 rfl rfl ?_
      refine x_getRs (r := 22) C fkM_X12_75 (nlt rfl) rfl (HG.rR hH (k := 0) (i := 43) rfl rfl) dX12_findPaths_102 ?_
      refine x_iconst C dX12_findPaths_105 ?_
      refine x_iald C (nlt rfl) rfl rfl (nle rfl) (by omega) (by omega) dX12_findPaths_106 ?_
      refine x_gen (fun v4 ev4 => ?_)
      have qv4 : (0 : Int) ≤ v4 ∧ v4 ≤ (9 : Int) := by
        rw [ev4]
        exact hH.rF (k := 22) (i := 0) (p := (0, 9)) rfl rfl
      refine x_icmp_ge (tgt := 121) C dX12_findPaths_107 (by decide) ⟨by omega, by omega⟩ ⟨by omega, by omega⟩ (fun h5 => ?_) (fun h5 => ?_)
      · refine x_iconst C dX12_findPaths_121 ?_
        refine x_istore (lv' := [(5, .int (iI ((-1)))), (4, .int (iI (v3))), (3, .int (iI (i))), (0, .ref 0)]) C dX12_findPaths_122 (nlt rfl) rfl ?_
        refine x_iinc (lv' := [(3, .int (iI (i + 1))), (5, .int (iI ((-1)))), (4, .int (iI (v3))), (0, .ref 0)]) C dX12_findPaths_124 rfl (nlt rfl) rfl ?_
        refine x_iload C dX12_findPaths_127 rfl ?_
        refine x_callS (As := [.int (iI (v3))]) C (by exact (qf_isTurn (f := v3) (by omega) (by omega))) ckX12_364 sm_X12_isTurn rfl rfl (nle rfl) (by exact ⟨nle rfl, nle rfl⟩) dX12_findPaths_129 ?_
        rintro _ Xv6 ⟨hxv6, v6, rfl, ev6⟩
        rw [hxv6]
        refine Wx_st (st' := [.int (iI (v6))]) rfl ?_
        refine x_if_eq (tgt := 152) C dX12_findPaths_132 (by decide) ⟨by omega, by omega⟩ (fun h7 => ?_) (fun h7 => ?_)
        · refine x_iload_n (i := 3) C dX12_findPaths_152 rfl rfl ?_
          refine x_iload C dX12_findPaths_153 rfl ?_
          refine x_callS (As := [.int (iI (v3))]) C (by exact (qf_isTurn (f := v3) (by omega) (by omega))) ckX12_364 sm_X12_isTurn rfl rfl (nle rfl) (by exact ⟨nle rfl, nle rfl⟩) dX12_findPaths_155 ?_
          rintro _ Xv8 ⟨hxv8, v8, rfl, ev8⟩
          rw [hxv8]
          refine Wx_st (st' := [.int (iI (v8)), .int (iI (i + 1))]) rfl ?_
          refine x_if_eq (tgt := 165) C dX12_findPaths_158 (by decide) ⟨by omega, by omega⟩ (fun h9 => ?_) (fun h9 => ?_)
          · refine x_iconst C dX12_findPaths_165 ?_
            refine x_iadd C dX12_findPaths_166 ?_
            refine x_gen (fun v10 ev10 => ?_)
            refine x_istore_n (i := 3) (lv' := [(3, .int (iI (v10))), (5, .int (iI ((-1)))), (4, .int (iI (v3))), (0, .ref 0)]) C dX12_findPaths_167 rfl (nlt rfl) rfl ?_
            refine x_aload_n (i := 0) C dX12_findPaths_168 rfl rfl ?_
            refine x_iload C dX12_findPaths_169 rfl ?_
            refine x_callS (As := [.int (iI (v3))]) C (by exact (qf_isTurn (f := v3) (by omega) (by omega))) ckX12_364 sm_X12_isTurn rfl rfl (nle rfl) (by exact ⟨nle rfl, nle rfl⟩) dX12_findPaths_171 ?_
            rintro _ Xv11 ⟨hxv11, v11, rfl, ev11⟩
            rw [hxv11]
            refine Wx_st (st' := [.int (iI (v11)), .ref 0]) rfl ?_
            refine x_if_eq (tgt := 182) C dX12_findPaths_174 (by decide) ⟨by omega, by omega⟩ (fun h12 => ?_) (fun h12 => ?_)
            · refine x_iload C dX12_findPaths_182 rfl ?_
              refine x_iload C dX12_findPaths_184 rfl ?_
              refine x_bipush C dX12_findPaths_186 (by decide) ?_
              refine x_icmp_ne (tgt := 195) C dX12_findPaths_188 (by decide) ⟨by omega, by omega⟩ ⟨by omega, by omega⟩ (fun h13 => ?_) (fun h13 => ?_)
              · refine x_iconst C dX12_findPaths_195 ?_
                refine x_callV (As := [.int (iI (v3)), .int (iI (0))]) C (by exact (qf_pathsBy (sg := v3) (my := 0) (J := 12 * (i - 1)) (by omega) (by omega) (by omega) (by omega) (by omega) (by omega) hH FR.rf hcn hw hh)) ckX12_421 im_X12_pathsBy se_X12_pathsBy (nlt rfl) rfl rfl rfl rfl (nle rfl) (by exact ⟨nle rfl, nle rfl⟩) dX12_findPaths_196 ?_
                rintro _ Yy14 ⟨rfl, hHy14, hGy14, hNy14⟩
                have hFy14 : FR (cMd k_M_100) X0 Yy14 := FR.tr hF hGy14 (by decide)
                have hwy14 : 2 ≤ Yy14.1 0 22 ∧ Yy14.1 0 22 ≤ 6 := by rw [(hFy14 0 22 rfl).1]; exact hw0
                have hhy14 : 2 ≤ Yy14.1 0 23 ∧ Yy14.1 0 23 ≤ 6 := by rw [(hFy14 0 23 rfl).1]; exact hh0
                refine Wx_st (st' := []) rfl ?_
                refine x_iload C dX12_findPaths_199 rfl ?_
                refine x_bipush C dX12_findPaths_201 (by decide) ?_
                refine x_icmp_ne (tgt := 213) C dX12_findPaths_203 (by decide) ⟨by omega, by omega⟩ ⟨by omega, by omega⟩ (fun h15 => ?_) (fun h15 => ?_)
                · refine x_goto (tgt := 82) C dX12_findPaths_213 (by decide) ?_
                  refine Wx_pick [3, 0] ?_
                  refine Wx_lv (lv' := [(3, .int (iI (v10))), (0, .ref 0)]) rfl ?_
                  exact ih _ _ (by omega) (by omega) (by omega) hHy14 hFy14 (hNy14.mono (by omega))
                · refine x_aload_n (i := 0) C dX12_findPaths_206 rfl rfl ?_
                  refine x_iload C dX12_findPaths_207 rfl ?_
                  refine x_iconst C dX12_findPaths_209 ?_
                  refine x_callV (As := [.int (iI ((-1))), .int (iI (0))]) C (by exact (qf_pathsBy (sg := (-1)) (my := 0) (J := 12 * (i - 1) + 6) (by omega) (by omega) (by omega) (by omega) (by omega) (by omega) hHy14 FR.rf hNy14 hwy14 hhy14)) ckX12_421 im_X12_pathsBy se_X12_pathsBy (nlt rfl) rfl rfl rfl rfl (nle rfl) (by exact ⟨nle rfl, nle rfl⟩) dX12_findPaths_210 ?_
                  rintro _ Yy16 ⟨rfl, hHy16, hGy16, hNy16⟩
                  have hFy16 : FR (cMd k_M_100) X0 Yy16 := FR.tr hFy14 hGy16 (by decide)
                  have hwy16 : 2 ≤ Yy16.1 0 22 ∧ Yy16.1 0 22 ≤ 6 := by rw [(hFy16 0 22 rfl).1]; exact hw0
                  have hhy16 : 2 ≤ Yy16.1 0 23 ∧ Yy16.1 0 23 ≤ 6 := by rw [(hFy16 0 23 rfl).1]; exact hh0
                  refine Wx_st (st' := []) rfl ?_
                  refine x_goto (tgt := 82) C dX12_findPaths_213 (by decide) ?_
                  refine Wx_pick [3, 0] ?_
                  refine Wx_lv (lv' := [(3, .int (iI (v10))), (0, .ref 0)]) rfl ?_
                  exact ih _ _ (by omega) (by omega) (by omega) hHy16 hFy16 (hNy16.mono (by omega))
              · refine x_iconst C dX12_findPaths_191 ?_
                refine x_goto (tgt := 196) C dX12_findPaths_192 (by decide) ?_
                refine x_callV (As := [.int (iI (v3)), .int (iI (1))]) C (by exact (qf_pathsBy (sg := v3) (my := 1) (J := 12 * (i - 1)) (by omega) (by omega) (by omega) (by omega) (by omega) (by omega) hH FR.rf hcn hw hh)) ckX12_421 im_X12_pathsBy se_X12_pathsBy (nlt rfl) rfl rfl rfl rfl (nle rfl) (by exact ⟨nle rfl, nle rfl⟩) dX12_findPaths_196 ?_
                rintro _ Yy17 ⟨rfl, hHy17, hGy17, hNy17⟩
                have hFy17 : FR (cMd k_M_100) X0 Yy17 := FR.tr hF hGy17 (by decide)
                have hwy17 : 2 ≤ Yy17.1 0 22 ∧ Yy17.1 0 22 ≤ 6 := by rw [(hFy17 0 22 rfl).1]; exact hw0
                have hhy17 : 2 ≤ Yy17.1 0 23 ∧ Yy17.1 0 23 ≤ 6 := by rw [(hFy17 0 23 rfl).1]; exact hh0
                refine Wx_st (st' := []) rfl ?_
                refine x_iload C dX12_findPaths_199 rfl ?_
                refine x_bipush C dX12_findPaths_201 (by decide) ?_
                refine x_icmp_ne (tgt := 213) C dX12_findPaths_203 (by decide) ⟨by omega, by omega⟩ ⟨by omega, by omega⟩ (fun h18 => ?_) (fun h18 => ?_)
                · refine x_goto (tgt := 82) C dX12_findPaths_213 (by decide) ?_
                  refine Wx_pick [3, 0] ?_
                  refine Wx_lv (lv' := [(3, .int (iI (v10))), (0, .ref 0)]) rfl ?_
                  exact ih _ _ (by omega) (by omega) (by omega) hHy17 hFy17 (hNy17.mono (by omega))
                · refine x_aload_n (i := 0) C dX12_findPaths_206 rfl rfl ?_
                  refine x_iload C dX12_findPaths_207 rfl ?_
                  refine x_iconst C dX12_findPaths_209 ?_
                  refine x_callV (As := [.int (iI ((-1))), .int (iI (0))]) C (by exact (qf_pathsBy (sg := (-1)) (my := 0) (J := 12 * (i - 1) + 6) (by omega) (by omega) (by omega) (by omega) (by omega) (by omega) hHy17 FR.rf hNy17 hwy17 hhy17)) ckX12_421 im_X12_pathsBy se_X12_pathsBy (nlt rfl) rfl rfl rfl rfl (nle rfl) (by exact ⟨nle rfl, nle rfl⟩) dX12_findPaths_210 ?_
                  rintro _ Yy19 ⟨rfl, hHy19, hGy19, hNy19⟩
                  have hFy19 : FR (cMd k_M_100) X0 Yy19 := FR.tr hFy17 hGy19 (by decide)
                  have hwy19 : 2 ≤ Yy19.1 0 22 ∧ Yy19.1 0 22 ≤ 6 := by rw [(hFy19 0 22 rfl).1]; exact hw0
                  have hhy19 : 2 ≤ Yy19.1 0 23 ∧ Yy19.1 0 23 ≤ 6 := by rw [(hFy19 0 23 rfl).1]; exact hh0
                  refine Wx_st (st' := []) rfl ?_
                  refine x_goto (tgt := 82) C dX12_findPaths_213 (by decide) ?_
                  refine Wx_pick [3, 0] ?_
                  refine Wx_lv (lv' := [(3, .int (iI (v10))), (0, .ref 0)]) rfl ?_
                  exact ih _ _ (by omega) (by omega) (by omega) hHy19 hFy19 (hNy19.mono (by omega))
            · refine x_iload C dX12_findPaths_177 rfl ?_
              refine x_goto (tgt := 184) C dX12_findPaths_179 (by decide) ?_
              refine x_iload C dX12_findPaths_184 rfl ?_
              refine x_bipush C dX12_findPaths_186 (by decide) ?_
              refine x_icmp_ne (tgt := 195) C dX12_findPaths_188 (by decide) ⟨by omega, by omega⟩ ⟨by omega, by omega⟩ (fun h20 => ?_) (fun h20 => ?_)
              · refine x_iconst C dX12_findPaths_195 ?_
                refine x_callV (As := [.int (iI ((-1))), .int (iI (0))]) C (by exact (qf_pathsBy (sg := (-1)) (my := 0) (J := 12 * (i - 1)) (by omega) (by omega) (by omega) (by omega) (by omega) (by omega) hH FR.rf hcn hw hh)) ckX12_421 im_X12_pathsBy se_X12_pathsBy (nlt rfl) rfl rfl rfl rfl (nle rfl) (by exact ⟨nle rfl, nle rfl⟩) dX12_findPaths_196 ?_
                rintro _ Yy21 ⟨rfl, hHy21, hGy21, hNy21⟩
                have hFy21 : FR (cMd k_M_100) X0 Yy21 := FR.tr hF hGy21 (by decide)
                have hwy21 : 2 ≤ Yy21.1 0 22 ∧ Yy21.1 0 22 ≤ 6 := by rw [(hFy21 0 22 rfl).1]; exact hw0
                have hhy21 : 2 ≤ Yy21.1 0 23 ∧ Yy21.1 0 23 ≤ 6 := by rw [(hFy21 0 23 rfl).1]; exact hh0
                refine Wx_st (st' := []) rfl ?_
                refine x_iload C dX12_findPaths_199 rfl ?_
                refine x_bipush C dX12_findPaths_201 (by decide) ?_
                refine x_icmp_ne (tgt := 213) C dX12_findPaths_203 (by decide) ⟨by omega, by omega⟩ ⟨by omega, by omega⟩ (fun h22 => ?_) (fun h22 => ?_)
                · refine x_goto (tgt := 82) C dX12_findPaths_213 (by decide) ?_
                  refine Wx_pick [3, 0] ?_
                  refine Wx_lv (lv' := [(3, .int (iI (v10))), (0, .ref 0)]) rfl ?_
                  exact ih _ _ (by omega) (by omega) (by omega) hHy21 hFy21 (hNy21.mono (by omega))
                · refine x_aload_n (i := 0) C dX12_findPaths_206 rfl rfl ?_
                  refine x_iload C dX12_findPaths_207 rfl ?_
                  refine x_iconst C dX12_findPaths_209 ?_
                  refine x_callV (As := [.int (iI ((-1))), .int (iI (0))]) C (by exact (qf_pathsBy (sg := (-1)) (my := 0) (J := 12 * (i - 1) + 6) (by omega) (by omega) (by omega) (by omega) (by omega) (by omega) hHy21 FR.rf hNy21 hwy21 hhy21)) ckX12_421 im_X12_pathsBy se_X12_pathsBy (nlt rfl) rfl rfl rfl rfl (nle rfl) (by exact ⟨nle rfl, nle rfl⟩) dX12_findPaths_210 ?_
                  rintro _ Yy23 ⟨rfl, hHy23, hGy23, hNy23⟩
                  have hFy23 : FR (cMd k_M_100) X0 Yy23 := FR.tr hFy21 hGy23 (by decide)
                  have hwy23 : 2 ≤ Yy23.1 0 22 ∧ Yy23.1 0 22 ≤ 6 := by rw [(hFy23 0 22 rfl).1]; exact hw0
                  have hhy23 : 2 ≤ Yy23.1 0 23 ∧ Yy23.1 0 23 ≤ 6 := by rw [(hFy23 0 23 rfl).1]; exact hh0
                  refine Wx_st (st' := []) rfl ?_
                  refine x_goto (tgt := 82) C dX12_findPaths_213 (by decide) ?_
                  refine Wx_pick [3, 0] ?_
                  refine Wx_lv (lv' := [(3, .int (iI (v10))), (0, .ref 0)]) rfl ?_
                  exact ih _ _ (by omega) (by omega) (by omega) hHy23 hFy23 (hNy23.mono (by omega))
              · refine x_iconst C dX12_findPaths_191 ?_
                refine x_goto (tgt := 196) C dX12_findPaths_192 (by decide) ?_
                refine x_callV (As := [.int (iI ((-1))), .int (iI (1))]) C (by exact (qf_pathsBy (sg := (-1)) (my := 1) (J := 12 * (i - 1)) (by omega) (by omega) (by omega) (by omega) (by omega) (by omega) hH FR.rf hcn hw hh)) ckX12_421 im_X12_pathsBy se_X12_pathsBy (nlt rfl) rfl rfl rfl rfl (nle rfl) (by exact ⟨nle rfl, nle rfl⟩) dX12_findPaths_196 ?_
                rintro _ Yy24 ⟨rfl, hHy24, hGy24, hNy24⟩
                have hFy24 : FR (cMd k_M_100) X0 Yy24 := FR.tr hF hGy24 (by decide)
                have hwy24 : 2 ≤ Yy24.1 0 22 ∧ Yy24.1 0 22 ≤ 6 := by rw [(hFy24 0 22 rfl).1]; exact hw0
                have hhy24 : 2 ≤ Yy24.1 0 23 ∧ Yy24.1 0 23 ≤ 6 := by rw [(hFy24 0 23 rfl).1]; exact hh0
                refine Wx_st (st' := []) rfl ?_
                refine x_iload C dX12_findPaths_199 rfl ?_
                refine x_bipush C dX12_findPaths_201 (by decide) ?_
                refine x_icmp_ne (tgt := 213) C dX12_findPaths_203 (by decide) ⟨by omega, by omega⟩ ⟨by omega, by omega⟩ (fun h25 => ?_) (fun h25 => ?_)
                · refine x_goto (tgt := 82) C dX12_findPaths_213 (by decide) ?_
                  refine Wx_pick [3, 0] ?_
                  refine Wx_lv (lv' := [(3, .int (iI (v10))), (0, .ref 0)]) rfl ?_
                  exact ih _ _ (by omega) (by omega) (by omega) hHy24 hFy24 (hNy24.mono (by omega))
                · refine x_aload_n (i := 0) C dX12_findPaths_206 rfl rfl ?_
                  refine x_iload C dX12_findPaths_207 rfl ?_
                  refine x_iconst C dX12_findPaths_209 ?_
                  refine x_callV (As := [.int (iI ((-1))), .int (iI (0))]) C (by exact (qf_pathsBy (sg := (-1)) (my := 0) (J := 12 * (i - 1) + 6) (by omega) (by omega) (by omega) (by omega) (by omega) (by omega) hHy24 FR.rf hNy24 hwy24 hhy24)) ckX12_421 im_X12_pathsBy se_X12_pathsBy (nlt rfl) rfl rfl rfl rfl (nle rfl) (by exact ⟨nle rfl, nle rfl⟩) dX12_findPaths_210 ?_
                  rintro _ Yy26 ⟨rfl, hHy26, hGy26, hNy26⟩
                  have hFy26 : FR (cMd k_M_100) X0 Yy26 := FR.tr hFy24 hGy26 (by decide)
                  have hwy26 : 2 ≤ Yy26.1 0 22 ∧ Yy26.1 0 22 ≤ 6 := by rw [(hFy26 0 22 rfl).1]; exact hw0
                  have hhy26 : 2 ≤ Yy26.1 0 23 ∧ Yy26.1 0 23 ≤ 6 := by rw [(hFy26 0 23 rfl).1]; exact hh0
                  refine Wx_st (st' := []) rfl ?_
                  refine x_goto (tgt := 82) C dX12_findPaths_213 (by decide) ?_
                  refine Wx_pick [3, 0] ?_
                  refine Wx_lv (lv' := [(3, .int (iI (v10))), (0, .ref 0)]) rfl ?_
                  exact ih _ _ (by omega) (by omega) (by omega) hHy26 hFy26 (hNy26.mono (by omega))
          · refine x_iconst C dX12_findPaths_161 ?_
            refine x_goto (tgt := 166) C dX12_findPaths_162 (by decide) ?_
            refine x_iadd C dX12_findPaths_166 ?_
            refine x_gen (fun v27 ev27 => ?_)
            refine x_istore_n (i := 3) (lv' := [(3, .int (iI (v27))), (5, .int (iI ((-1)))), (4, .int (iI (v3))), (0, .ref 0)]) C dX12_findPaths_167 rfl (nlt rfl) rfl ?_
            refine x_aload_n (i := 0) C dX12_findPaths_168 rfl rfl ?_
            refine x_iload C dX12_findPaths_169 rfl ?_
            refine x_callS (As := [.int (iI (v3))]) C (by exact (qf_isTurn (f := v3) (by omega) (by omega))) ckX12_364 sm_X12_isTurn rfl rfl (nle rfl) (by exact ⟨nle rfl, nle rfl⟩) dX12_findPaths_171 ?_
            rintro _ Xv28 ⟨hxv28, v28, rfl, ev28⟩
            rw [hxv28]
            refine Wx_st (st' := [.int (iI (v28)), .ref 0]) rfl ?_
            refine x_if_eq (tgt := 182) C dX12_findPaths_174 (by decide) ⟨by omega, by omega⟩ (fun h29 => ?_) (fun h29 => ?_)
            · refine x_iload C dX12_findPaths_182 rfl ?_
              refine x_iload C dX12_findPaths_184 rfl ?_
              refine x_bipush C dX12_findPaths_186 (by decide) ?_
              refine x_icmp_ne (tgt := 195) C dX12_findPaths_188 (by decide) ⟨by omega, by omega⟩ ⟨by omega, by omega⟩ (fun h30 => ?_) (fun h30 => ?_)
              · refine x_iconst C dX12_findPaths_195 ?_
                refine x_callV (As := [.int (iI (v3)), .int (iI (0))]) C (by exact (qf_pathsBy (sg := v3) (my := 0) (J := 12 * (i - 1)) (by omega) (by omega) (by omega) (by omega) (by omega) (by omega) hH FR.rf hcn hw hh)) ckX12_421 im_X12_pathsBy se_X12_pathsBy (nlt rfl) rfl rfl rfl rfl (nle rfl) (by exact ⟨nle rfl, nle rfl⟩) dX12_findPaths_196 ?_
                rintro _ Yy31 ⟨rfl, hHy31, hGy31, hNy31⟩
                have hFy31 : FR (cMd k_M_100) X0 Yy31 := FR.tr hF hGy31 (by decide)
                have hwy31 : 2 ≤ Yy31.1 0 22 ∧ Yy31.1 0 22 ≤ 6 := by rw [(hFy31 0 22 rfl).1]; exact hw0
                have hhy31 : 2 ≤ Yy31.1 0 23 ∧ Yy31.1 0 23 ≤ 6 := by rw [(hFy31 0 23 rfl).1]; exact hh0
                refine Wx_st (st' := []) rfl ?_
                refine x_iload C dX12_findPaths_199 rfl ?_
                refine x_bipush C dX12_findPaths_201 (by decide) ?_
                refine x_icmp_ne (tgt := 213) C dX12_findPaths_203 (by decide) ⟨by omega, by omega⟩ ⟨by omega, by omega⟩ (fun h32 => ?_) (fun h32 => ?_)
                · refine x_goto (tgt := 82) C dX12_findPaths_213 (by decide) ?_
                  refine Wx_pick [3, 0] ?_
                  refine Wx_lv (lv' := [(3, .int (iI (v27))), (0, .ref 0)]) rfl ?_
                  exact ih _ _ (by omega) (by omega) (by omega) hHy31 hFy31 (hNy31.mono (by omega))
                · refine x_aload_n (i := 0) C dX12_findPaths_206 rfl rfl ?_
                  refine x_iload C dX12_findPaths_207 rfl ?_
                  refine x_iconst C dX12_findPaths_209 ?_
                  refine x_callV (As := [.int (iI ((-1))), .int (iI (0))]) C (by exact (qf_pathsBy (sg := (-1)) (my := 0) (J := 12 * (i - 1) + 6) (by omega) (by omega) (by omega) (by omega) (by omega) (by omega) hHy31 FR.rf hNy31 hwy31 hhy31)) ckX12_421 im_X12_pathsBy se_X12_pathsBy (nlt rfl) rfl rfl rfl rfl (nle rfl) (by exact ⟨nle rfl, nle rfl⟩) dX12_findPaths_210 ?_
                  rintro _ Yy33 ⟨rfl, hHy33, hGy33, hNy33⟩
                  have hFy33 : FR (cMd k_M_100) X0 Yy33 := FR.tr hFy31 hGy33 (by decide)
                  have hwy33 : 2 ≤ Yy33.1 0 22 ∧ Yy33.1 0 22 ≤ 6 := by rw [(hFy33 0 22 rfl).1]; exact hw0
                  have hhy33 : 2 ≤ Yy33.1 0 23 ∧ Yy33.1 0 23 ≤ 6 := by rw [(hFy33 0 23 rfl).1]; exact hh0
                  refine Wx_st (st' := []) rfl ?_
                  refine x_goto (tgt := 82) C dX12_findPaths_213 (by decide) ?_
                  refine Wx_pick [3, 0] ?_
                  refine Wx_lv (lv' := [(3, .int (iI (v27))), (0, .ref 0)]) rfl ?_
                  exact ih _ _ (by omega) (by omega) (by omega) hHy33 hFy33 (hNy33.mono (by omega))
              · refine x_iconst C dX12_findPaths_191 ?_
                refine x_goto (tgt := 196) C dX12_findPaths_192 (by decide) ?_
                refine x_callV (As := [.int (iI (v3)), .int (iI (1))]) C (by exact (qf_pathsBy (sg := v3) (my := 1) (J := 12 * (i - 1)) (by omega) (by omega) (by omega) (by omega) (by omega) (by omega) hH FR.rf hcn hw hh)) ckX12_421 im_X12_pathsBy se_X12_pathsBy (nlt rfl) rfl rfl rfl rfl (nle rfl) (by exact ⟨nle rfl, nle rfl⟩) dX12_findPaths_196 ?_
                rintro _ Yy34 ⟨rfl, hHy34, hGy34, hNy34⟩
                have hFy34 : FR (cMd k_M_100) X0 Yy34 := FR.tr hF hGy34 (by decide)
                have hwy34 : 2 ≤ Yy34.1 0 22 ∧ Yy34.1 0 22 ≤ 6 := by rw [(hFy34 0 22 rfl).1]; exact hw0
                have hhy34 : 2 ≤ Yy34.1 0 23 ∧ Yy34.1 0 23 ≤ 6 := by rw [(hFy34 0 23 rfl).1]; exact hh0
                refine Wx_st (st' := []) rfl ?_
                refine x_iload C dX12_findPaths_199 rfl ?_
                refine x_bipush C dX12_findPaths_201 (by decide) ?_
                refine x_icmp_ne (tgt := 213) C dX12_findPaths_203 (by decide) ⟨by omega, by omega⟩ ⟨by omega, by omega⟩ (fun h35 => ?_) (fun h35 => ?_)
                · refine x_goto (tgt := 82) C dX12_findPaths_213 (by decide) ?_
                  refine Wx_pick [3, 0] ?_
                  refine Wx_lv (lv' := [(3, .int (iI (v27))), (0, .ref 0)]) rfl ?_
                  exact ih _ _ (by omega) (by omega) (by omega) hHy34 hFy34 (hNy34.mono (by omega))
                · refine x_aload_n (i := 0) C dX12_findPaths_206 rfl rfl ?_
                  refine x_iload C dX12_findPaths_207 rfl ?_
                  refine x_iconst C dX12_findPaths_209 ?_
                  refine x_callV (As := [.int (iI ((-1))), .int (iI (0))]) C (by exact (qf_pathsBy (sg := (-1)) (my := 0) (J := 12 * (i - 1) + 6) (by omega) (by omega) (by omega) (by omega) (by omega) (by omega) hHy34 FR.rf hNy34 hwy34 hhy34)) ckX12_421 im_X12_pathsBy se_X12_pathsBy (nlt rfl) rfl rfl rfl rfl (nle rfl) (by exact ⟨nle rfl, nle rfl⟩) dX12_findPaths_210 ?_
                  rintro _ Yy36 ⟨rfl, hHy36, hGy36, hNy36⟩
                  have hFy36 : FR (cMd k_M_100) X0 Yy36 := FR.tr hFy34 hGy36 (by decide)
                  have hwy36 : 2 ≤ Yy36.1 0 22 ∧ Yy36.1 0 22 ≤ 6 := by rw [(hFy36 0 22 rfl).1]; exact hw0
                  have hhy36 : 2 ≤ Yy36.1 0 23 ∧ Yy36.1 0 23 ≤ 6 := by rw [(hFy36 0 23 rfl).1]; exact hh0
                  refine Wx_st (st' := []) rfl ?_
                  refine x_goto (tgt := 82) C dX12_findPaths_213 (by decide) ?_
                  refine Wx_pick [3, 0] ?_
                  refine Wx_lv (lv' := [(3, .int (iI (v27))), (0, .ref 0)]) rfl ?_
                  exact ih _ _ (by omega) (by omega) (by omega) hHy36 hFy36 (hNy36.mono (by omega))
            · refine x_iload C dX12_findPaths_177 rfl ?_
              refine x_goto (tgt := 184) C dX12_findPaths_179 (by decide) ?_
              refine x_iload C dX12_findPaths_184 rfl ?_
              refine x_bipush C dX12_findPaths_186 (by decide) ?_
              refine x_icmp_ne (tgt := 195) C dX12_findPaths_188 (by decide) ⟨by omega, by omega⟩ ⟨by omega, by omega⟩ (fun h37 => ?_) (fun h37 => ?_)
              · refine x_iconst C dX12_findPaths_195 ?_
                refine x_callV (As := [.int (iI ((-1))), .int (iI (0))]) C (by exact (qf_pathsBy (sg := (-1)) (my := 0) (J := 12 * (i - 1)) (by omega) (by omega) (by omega) (by omega) (by omega) (by omega) hH FR.rf hcn hw hh)) ckX12_421 im_X12_pathsBy se_X12_pathsBy (nlt rfl) rfl rfl rfl rfl (nle rfl) (by exact ⟨nle rfl, nle rfl⟩) dX12_findPaths_196 ?_
                rintro _ Yy38 ⟨rfl, hHy38, hGy38, hNy38⟩
                have hFy38 : FR (cMd k_M_100) X0 Yy38 := FR.tr hF hGy38 (by decide)
                have hwy38 : 2 ≤ Yy38.1 0 22 ∧ Yy38.1 0 22 ≤ 6 := by rw [(hFy38 0 22 rfl).1]; exact hw0
                have hhy38 : 2 ≤ Yy38.1 0 23 ∧ Yy38.1 0 23 ≤ 6 := by rw [(hFy38 0 23 rfl).1]; exact hh0
                refine Wx_st (st' := []) rfl ?_
                refine x_iload C dX12_findPaths_199 rfl ?_
                refine x_bipush C dX12_findPaths_201 (by decide) ?_
                refine x_icmp_ne (tgt := 213) C dX12_findPaths_203 (by decide) ⟨by omega, by omega⟩ ⟨by omega, by omega⟩ (fun h39 => ?_) (fun h39 => ?_)
                · refine x_goto (tgt := 82) C dX12_findPaths_213 (by decide) ?_
                  refine Wx_pick [3, 0] ?_
                  refine Wx_lv (lv' := [(3, .int (iI (v27))), (0, .ref 0)]) rfl ?_
                  exact ih _ _ (by omega) (by omega) (by omega) hHy38 hFy38 (hNy38.mono (by omega))
                · refine x_aload_n (i := 0) C dX12_findPaths_206 rfl rfl ?_
                  refine x_iload C dX12_findPaths_207 rfl ?_
                  refine x_iconst C dX12_findPaths_209 ?_
                  refine x_callV (As := [.int (iI ((-1))), .int (iI (0))]) C (by exact (qf_pathsBy (sg := (-1)) (my := 0) (J := 12 * (i - 1) + 6) (by omega) (by omega) (by omega) (by omega) (by omega) (by omega) hHy38 FR.rf hNy38 hwy38 hhy38)) ckX12_421 im_X12_pathsBy se_X12_pathsBy (nlt rfl) rfl rfl rfl rfl (nle rfl) (by exact ⟨nle rfl, nle rfl⟩) dX12_findPaths_210 ?_
                  rintro _ Yy40 ⟨rfl, hHy40, hGy40, hNy40⟩
                  have hFy40 : FR (cMd k_M_100) X0 Yy40 := FR.tr hFy38 hGy40 (by decide)
                  have hwy40 : 2 ≤ Yy40.1 0 22 ∧ Yy40.1 0 22 ≤ 6 := by rw [(hFy40 0 22 rfl).1]; exact hw0
                  have hhy40 : 2 ≤ Yy40.1 0 23 ∧ Yy40.1 0 23 ≤ 6 := by rw [(hFy40 0 23 rfl).1]; exact hh0
                  refine Wx_st (st' := []) rfl ?_
                  refine x_goto (tgt := 82) C dX12_findPaths_213 (by decide) ?_
                  refine Wx_pick [3, 0] ?_
                  refine Wx_lv (lv' := [(3, .int (iI (v27))), (0, .ref 0)]) rfl ?_
                  exact ih _ _ (by omega) (by omega) (by omega) hHy40 hFy40 (hNy40.mono (by omega))
              · refine x_iconst C dX12_findPaths_191 ?_
                refine x_goto (tgt := 196) C dX12_findPaths_192 (by decide) ?_
                refine x_callV (As := [.int (iI ((-1))), .int (iI (1))]) C (by exact (qf_pathsBy (sg := (-1)) (my := 1) (J := 12 * (i - 1)) (by omega) (by omega) (by omega) (by omega) (by omega) (by omega) hH FR.rf hcn hw hh)) ckX12_421 im_X12_pathsBy se_X12_pathsBy (nlt rfl) rfl rfl rfl rfl (nle rfl) (by exact ⟨nle rfl, nle rfl⟩) dX12_findPaths_196 ?_
                rintro _ Yy41 ⟨rfl, hHy41, hGy41, hNy41⟩
                have hFy41 : FR (cMd k_M_100) X0 Yy41 := FR.tr hF hGy41 (by decide)
                have hwy41 : 2 ≤ Yy41.1 0 22 ∧ Yy41.1 0 22 ≤ 6 := by rw [(hFy41 0 22 rfl).1]; exact hw0
                have hhy41 : 2 ≤ Yy41.1 0 23 ∧ Yy41.1 0 23 ≤ 6 := by rw [(hFy41 0 23 rfl).1]; exact hh0
                refine Wx_st (st' := []) rfl ?_
                refine x_iload C dX12_findPaths_199 rfl ?_
                refine x_bipush C dX12_findPaths_201 (by decide) ?_
                refine x_icmp_ne (tgt := 213) C dX12_findPaths_203 (by decide) ⟨by omega, by omega⟩ ⟨by omega, by omega⟩ (fun h42 => ?_) (fun h42 => ?_)
                · refine x_goto (tgt := 82) C dX12_findPaths_213 (by decide) ?_
                  refine Wx_pick [3, 0] ?_
                  refine Wx_lv (lv' := [(3, .int (iI (v27))), (0, .ref 0)]) rfl ?_
                  exact ih _ _ (by omega) (by omega) (by omega) hHy41 hFy41 (hNy41.mono (by omega))
                · refine x_aload_n (i := 0) C dX12_findPaths_206 rfl rfl ?_
                  refine x_iload C dX12_findPaths_207 rfl ?_
                  refine x_iconst C dX12_findPaths_209 ?_
                  refine x_callV (As := [.int (iI ((-1))), .int (iI (0))]) C (by exact (qf_pathsBy (sg := (-1)) (my := 0) (J := 12 * (i - 1) + 6) (by omega) (by omega) (by omega) (by omega) (by omega) (by omega) hHy41 FR.rf hNy41 hwy41 hhy41)) ckX12_421 im_X12_pathsBy se_X12_pathsBy (nlt rfl) rfl rfl rfl rfl (nle rfl) (by exact ⟨nle rfl, nle rfl⟩) dX12_findPaths_210 ?_
                  rintro _ Yy43 ⟨rfl, hHy43, hGy43, hNy43⟩
                  have hFy43 : FR (cMd k_M_100) X0 Yy43 := FR.tr hFy41 hGy43 (by decide)
                  have hwy43 : 2 ≤ Yy43.1 0 22 ∧ Yy43.1 0 22 ≤ 6 := by rw [(hFy43 0 22 rfl).1]; exact hw0
                  have hhy43 : 2 ≤ Yy43.1 0 23 ∧ Yy43.1 0 23 ≤ 6 := by rw [(hFy43 0 23 rfl).1]; exact hh0
                  refine Wx_st (st' := []) rfl ?_
                  refine x_goto (tgt := 82) C dX12_findPaths_213 (by decide) ?_
                  refine Wx_pick [3, 0] ?_
                  refine Wx_lv (lv' := [(3, .int (iI (v27))), (0, .ref 0)]) rfl ?_
                  exact ih _ _ (by omega) (by omega) (by omega) hHy43 hFy43 (hNy43.mono (by omega))
        · refine x_iload C dX12_findPaths_135 rfl ?_
          refine x_iconst C dX12_findPaths_137 ?_
          refine x_icmp_eq (tgt := 82) C dX12_findPaths_138 (by decide) ⟨by omega, by omega⟩ ⟨by omega, by omega⟩ (fun h44 => ?_) (fun h44 => by exfalso; omega)
          refine Wx_pick [3, 0] ?_
          refine Wx_lv (lv' := [(3, .int (iI (i + 1))), (0, .ref 0)]) rfl ?_
          exact ih _ _ (by omega) (by omega) (by omega) hH hF (hcn.mono (by omega))
      · refine x_aload_n (i := 0) C dX12_findPaths_110 rfl rfl ?_
        refine x_getRs (r := 22) C fkM_X12_75 (nlt rfl) rfl (HG.rR hH (k := 0) (i := 43) rfl rfl) dX12_findPaths_111 ?_
        refine x_iload_n (i := 3) C dX12_findPaths_114 rfl rfl ?_
        refine x_iconst C dX12_findPaths_115 ?_
        refine x_iadd C dX12_findPaths_116 ?_
        refine x_iald C (nlt rfl) rfl rfl (nle rfl) (by omega) (by omega) dX12_findPaths_117 ?_
        refine x_gen (fun v45 ev45 => ?_)
        have qv45 : (0 : Int) ≤ v45 ∧ v45 ≤ (10 : Int) := by
          rw [ev45]
          exact hH.rA (k := 22) (n := 10) (p := (0, 10)) (nlt rfl) rfl (by decide +kernel) (by omega)
        refine x_goto (tgt := 122) C dX12_findPaths_118 (by decide) ?_
        refine x_istore (lv' := [(5, .int (iI (v45))), (4, .int (iI (v3))), (3, .int (iI (i))), (0, .ref 0)]) C dX12_findPaths_122 (nlt rfl) rfl ?_
        refine x_iinc (lv' := [(3, .int (iI (i + 1))), (5, .int (iI (v45))), (4, .int (iI (v3))), (0, .ref 0)]) C dX12_findPaths_124 rfl (nlt rfl) rfl ?_
        refine x_iload C dX12_findPaths_127 rfl ?_
        refine x_callS (As := [.int (iI (v3))]) C (by exact (qf_isTurn (f := v3) (by omega) (by omega))) ckX12_364 sm_X12_isTurn rfl rfl (nle rfl) (by exact ⟨nle rfl, nle rfl⟩) dX12_findPaths_129 ?_
        rintro _ Xv46 ⟨hxv46, v46, rfl, ev46⟩
        rw [hxv46]
        refine Wx_st (st' := [.int (iI (v46))]) rfl ?_
        refine x_if_eq (tgt := 152) C dX12_findPaths_132 (by decide) ⟨by omega, by omega⟩ (fun h47 => ?_) (fun h47 => ?_)
        · refine x_iload_n (i := 3) C dX12_findPaths_152 rfl rfl ?_
          refine x_iload C dX12_findPaths_153 rfl ?_
          refine x_callS (As := [.int (iI (v3))]) C (by exact (qf_isTurn (f := v3) (by omega) (by omega))) ckX12_364 sm_X12_isTurn rfl rfl (nle rfl) (by exact ⟨nle rfl, nle rfl⟩) dX12_findPaths_155 ?_
          rintro _ Xv48 ⟨hxv48, v48, rfl, ev48⟩
          rw [hxv48]
          refine Wx_st (st' := [.int (iI (v48)), .int (iI (i + 1))]) rfl ?_
          refine x_if_eq (tgt := 165) C dX12_findPaths_158 (by decide) ⟨by omega, by omega⟩ (fun h49 => ?_) (fun h49 => ?_)
          · refine x_iconst C dX12_findPaths_165 ?_
            refine x_iadd C dX12_findPaths_166 ?_
            refine x_gen (fun v50 ev50 => ?_)
            refine x_istore_n (i := 3) (lv' := [(3, .int (iI (v50))), (5, .int (iI (v45))), (4, .int (iI (v3))), (0, .ref 0)]) C dX12_findPaths_167 rfl (nlt rfl) rfl ?_
            refine x_aload_n (i := 0) C dX12_findPaths_168 rfl rfl ?_
            refine x_iload C dX12_findPaths_169 rfl ?_
            refine x_callS (As := [.int (iI (v3))]) C (by exact (qf_isTurn (f := v3) (by omega) (by omega))) ckX12_364 sm_X12_isTurn rfl rfl (nle rfl) (by exact ⟨nle rfl, nle rfl⟩) dX12_findPaths_171 ?_
            rintro _ Xv51 ⟨hxv51, v51, rfl, ev51⟩
            rw [hxv51]
            refine Wx_st (st' := [.int (iI (v51)), .ref 0]) rfl ?_
            refine x_if_eq (tgt := 182) C dX12_findPaths_174 (by decide) ⟨by omega, by omega⟩ (fun h52 => ?_) (fun h52 => ?_)
            · refine x_iload C dX12_findPaths_182 rfl ?_
              refine x_iload C dX12_findPaths_184 rfl ?_
              refine x_bipush C dX12_findPaths_186 (by decide) ?_
              refine x_icmp_ne (tgt := 195) C dX12_findPaths_188 (by decide) ⟨by omega, by omega⟩ ⟨by omega, by omega⟩ (fun h53 => ?_) (fun h53 => ?_)
              · refine x_iconst C dX12_findPaths_195 ?_
                refine x_callV (As := [.int (iI (v3)), .int (iI (0))]) C (by exact (qf_pathsBy (sg := v3) (my := 0) (J := 12 * (i - 1)) (by omega) (by omega) (by omega) (by omega) (by omega) (by omega) hH FR.rf hcn hw hh)) ckX12_421 im_X12_pathsBy se_X12_pathsBy (nlt rfl) rfl rfl rfl rfl (nle rfl) (by exact ⟨nle rfl, nle rfl⟩) dX12_findPaths_196 ?_
                rintro _ Yy54 ⟨rfl, hHy54, hGy54, hNy54⟩
                have hFy54 : FR (cMd k_M_100) X0 Yy54 := FR.tr hF hGy54 (by decide)
                have hwy54 : 2 ≤ Yy54.1 0 22 ∧ Yy54.1 0 22 ≤ 6 := by rw [(hFy54 0 22 rfl).1]; exact hw0
                have hhy54 : 2 ≤ Yy54.1 0 23 ∧ Yy54.1 0 23 ≤ 6 := by rw [(hFy54 0 23 rfl).1]; exact hh0
                refine Wx_st (st' := []) rfl ?_
                refine x_iload C dX12_findPaths_199 rfl ?_
                refine x_bipush C dX12_findPaths_201 (by decide) ?_
                refine x_icmp_ne (tgt := 213) C dX12_findPaths_203 (by decide) ⟨by omega, by omega⟩ ⟨by omega, by omega⟩ (fun h55 => ?_) (fun h55 => ?_)
                · refine x_goto (tgt := 82) C dX12_findPaths_213 (by decide) ?_
                  refine Wx_pick [3, 0] ?_
                  refine Wx_lv (lv' := [(3, .int (iI (v50))), (0, .ref 0)]) rfl ?_
                  exact ih _ _ (by omega) (by omega) (by omega) hHy54 hFy54 (hNy54.mono (by omega))
                · refine x_aload_n (i := 0) C dX12_findPaths_206 rfl rfl ?_
                  refine x_iload C dX12_findPaths_207 rfl ?_
                  refine x_iconst C dX12_findPaths_209 ?_
                  refine x_callV (As := [.int (iI (v45)), .int (iI (0))]) C (by exact (qf_pathsBy (sg := v45) (my := 0) (J := 12 * (i - 1) + 6) (by omega) (by omega) (by omega) (by omega) (by omega) (by omega) hHy54 FR.rf hNy54 hwy54 hhy54)) ckX12_421 im_X12_pathsBy se_X12_pathsBy (nlt rfl) rfl rfl rfl rfl (nle rfl) (by exact ⟨nle rfl, nle rfl⟩) dX12_findPaths_210 ?_
                  rintro _ Yy56 ⟨rfl, hHy56, hGy56, hNy56⟩
                  have hFy56 : FR (cMd k_M_100) X0 Yy56 := FR.tr hFy54 hGy56 (by decide)
                  have hwy56 : 2 ≤ Yy56.1 0 22 ∧ Yy56.1 0 22 ≤ 6 := by rw [(hFy56 0 22 rfl).1]; exact hw0
                  have hhy56 : 2 ≤ Yy56.1 0 23 ∧ Yy56.1 0 23 ≤ 6 := by rw [(hFy56 0 23 rfl).1]; exact hh0
                  refine Wx_st (st' := []) rfl ?_
                  refine x_goto (tgt := 82) C dX12_findPaths_213 (by decide) ?_
                  refine Wx_pick [3, 0] ?_
                  refine Wx_lv (lv' := [(3, .int (iI (v50))), (0, .ref 0)]) rfl ?_
                  exact ih _ _ (by omega) (by omega) (by omega) hHy56 hFy56 (hNy56.mono (by omega))
              · refine x_iconst C dX12_findPaths_191 ?_
                refine x_goto (tgt := 196) C dX12_findPaths_192 (by decide) ?_
                refine x_callV (As := [.int (iI (v3)), .int (iI (1))]) C (by exact (qf_pathsBy (sg := v3) (my := 1) (J := 12 * (i - 1)) (by omega) (by omega) (by omega) (by omega) (by omega) (by omega) hH FR.rf hcn hw hh)) ckX12_421 im_X12_pathsBy se_X12_pathsBy (nlt rfl) rfl rfl rfl rfl (nle rfl) (by exact ⟨nle rfl, nle rfl⟩) dX12_findPaths_196 ?_
                rintro _ Yy57 ⟨rfl, hHy57, hGy57, hNy57⟩
                have hFy57 : FR (cMd k_M_100) X0 Yy57 := FR.tr hF hGy57 (by decide)
                have hwy57 : 2 ≤ Yy57.1 0 22 ∧ Yy57.1 0 22 ≤ 6 := by rw [(hFy57 0 22 rfl).1]; exact hw0
                have hhy57 : 2 ≤ Yy57.1 0 23 ∧ Yy57.1 0 23 ≤ 6 := by rw [(hFy57 0 23 rfl).1]; exact hh0
                refine Wx_st (st' := []) rfl ?_
                refine x_iload C dX12_findPaths_199 rfl ?_
                refine x_bipush C dX12_findPaths_201 (by decide) ?_
                refine x_icmp_ne (tgt := 213) C dX12_findPaths_203 (by decide) ⟨by omega, by omega⟩ ⟨by omega, by omega⟩ (fun h58 => ?_) (fun h58 => ?_)
                · refine x_goto (tgt := 82) C dX12_findPaths_213 (by decide) ?_
                  refine Wx_pick [3, 0] ?_
                  refine Wx_lv (lv' := [(3, .int (iI (v50))), (0, .ref 0)]) rfl ?_
                  exact ih _ _ (by omega) (by omega) (by omega) hHy57 hFy57 (hNy57.mono (by omega))
                · refine x_aload_n (i := 0) C dX12_findPaths_206 rfl rfl ?_
                  refine x_iload C dX12_findPaths_207 rfl ?_
                  refine x_iconst C dX12_findPaths_209 ?_
                  refine x_callV (As := [.int (iI (v45)), .int (iI (0))]) C (by exact (qf_pathsBy (sg := v45) (my := 0) (J := 12 * (i - 1) + 6) (by omega) (by omega) (by omega) (by omega) (by omega) (by omega) hHy57 FR.rf hNy57 hwy57 hhy57)) ckX12_421 im_X12_pathsBy se_X12_pathsBy (nlt rfl) rfl rfl rfl rfl (nle rfl) (by exact ⟨nle rfl, nle rfl⟩) dX12_findPaths_210 ?_
                  rintro _ Yy59 ⟨rfl, hHy59, hGy59, hNy59⟩
                  have hFy59 : FR (cMd k_M_100) X0 Yy59 := FR.tr hFy57 hGy59 (by decide)
                  have hwy59 : 2 ≤ Yy59.1 0 22 ∧ Yy59.1 0 22 ≤ 6 := by rw [(hFy59 0 22 rfl).1]; exact hw0
                  have hhy59 : 2 ≤ Yy59.1 0 23 ∧ Yy59.1 0 23 ≤ 6 := by rw [(hFy59 0 23 rfl).1]; exact hh0
                  refine Wx_st (st' := []) rfl ?_
                  refine x_goto (tgt := 82) C dX12_findPaths_213 (by decide) ?_
                  refine Wx_pick [3, 0] ?_
                  refine Wx_lv (lv' := [(3, .int (iI (v50))), (0, .ref 0)]) rfl ?_
                  exact ih _ _ (by omega) (by omega) (by omega) hHy59 hFy59 (hNy59.mono (by omega))
            · refine x_iload C dX12_findPaths_177 rfl ?_
              refine x_goto (tgt := 184) C dX12_findPaths_179 (by decide) ?_
              refine x_iload C dX12_findPaths_184 rfl ?_
              refine x_bipush C dX12_findPaths_186 (by decide) ?_
              refine x_icmp_ne (tgt := 195) C dX12_findPaths_188 (by decide) ⟨by omega, by omega⟩ ⟨by omega, by omega⟩ (fun h60 => ?_) (fun h60 => ?_)
              · refine x_iconst C dX12_findPaths_195 ?_
                refine x_callV (As := [.int (iI (v45)), .int (iI (0))]) C (by exact (qf_pathsBy (sg := v45) (my := 0) (J := 12 * (i - 1)) (by omega) (by omega) (by omega) (by omega) (by omega) (by omega) hH FR.rf hcn hw hh)) ckX12_421 im_X12_pathsBy se_X12_pathsBy (nlt rfl) rfl rfl rfl rfl (nle rfl) (by exact ⟨nle rfl, nle rfl⟩) dX12_findPaths_196 ?_
                rintro _ Yy61 ⟨rfl, hHy61, hGy61, hNy61⟩
                have hFy61 : FR (cMd k_M_100) X0 Yy61 := FR.tr hF hGy61 (by decide)
                have hwy61 : 2 ≤ Yy61.1 0 22 ∧ Yy61.1 0 22 ≤ 6 := by rw [(hFy61 0 22 rfl).1]; exact hw0
                have hhy61 : 2 ≤ Yy61.1 0 23 ∧ Yy61.1 0 23 ≤ 6 := by rw [(hFy61 0 23 rfl).1]; exact hh0
                refine Wx_st (st' := []) rfl ?_
                refine x_iload C dX12_findPaths_199 rfl ?_
                refine x_bipush C dX12_findPaths_201 (by decide) ?_
                refine x_icmp_ne (tgt := 213) C dX12_findPaths_203 (by decide) ⟨by omega, by omega⟩ ⟨by omega, by omega⟩ (fun h62 => ?_) (fun h62 => ?_)
                · refine x_goto (tgt := 82) C dX12_findPaths_213 (by decide) ?_
                  refine Wx_pick [3, 0] ?_
                  refine Wx_lv (lv' := [(3, .int (iI (v50))), (0, .ref 0)]) rfl ?_
                  exact ih _ _ (by omega) (by omega) (by omega) hHy61 hFy61 (hNy61.mono (by omega))
                · refine x_aload_n (i := 0) C dX12_findPaths_206 rfl rfl ?_
                  refine x_iload C dX12_findPaths_207 rfl ?_
                  refine x_iconst C dX12_findPaths_209 ?_
                  refine x_callV (As := [.int (iI (v45)), .int (iI (0))]) C (by exact (qf_pathsBy (sg := v45) (my := 0) (J := 12 * (i - 1) + 6) (by omega) (by omega) (by omega) (by omega) (by omega) (by omega) hHy61 FR.rf hNy61 hwy61 hhy61)) ckX12_421 im_X12_pathsBy se_X12_pathsBy (nlt rfl) rfl rfl rfl rfl (nle rfl) (by exact ⟨nle rfl, nle rfl⟩) dX12_findPaths_210 ?_
                  rintro _ Yy63 ⟨rfl, hHy63, hGy63, hNy63⟩
                  have hFy63 : FR (cMd k_M_100) X0 Yy63 := FR.tr hFy61 hGy63 (by decide)
                  have hwy63 : 2 ≤ Yy63.1 0 22 ∧ Yy63.1 0 22 ≤ 6 := by rw [(hFy63 0 22 rfl).1]; exact hw0
                  have hhy63 : 2 ≤ Yy63.1 0 23 ∧ Yy63.1 0 23 ≤ 6 := by rw [(hFy63 0 23 rfl).1]; exact hh0
                  refine Wx_st (st' := []) rfl ?_
                  refine x_goto (tgt := 82) C dX12_findPaths_213 (by decide) ?_
                  refine Wx_pick [3, 0] ?_
                  refine Wx_lv (lv' := [(3, .int (iI (v50))), (0, .ref 0)]) rfl ?_
                  exact ih _ _ (by omega) (by omega) (by omega) hHy63 hFy63 (hNy63.mono (by omega))
              · refine x_iconst C dX12_findPaths_191 ?_
                refine x_goto (tgt := 196) C dX12_findPaths_192 (by decide) ?_
                refine x_callV (As := [.int (iI (v45)), .int (iI (1))]) C (by exact (qf_pathsBy (sg := v45) (my := 1) (J := 12 * (i - 1)) (by omega) (by omega) (by omega) (by omega) (by omega) (by omega) hH FR.rf hcn hw hh)) ckX12_421 im_X12_pathsBy se_X12_pathsBy (nlt rfl) rfl rfl rfl rfl (nle rfl) (by exact ⟨nle rfl, nle rfl⟩) dX12_findPaths_196 ?_
                rintro _ Yy64 ⟨rfl, hHy64, hGy64, hNy64⟩
                have hFy64 : FR (cMd k_M_100) X0 Yy64 := FR.tr hF hGy64 (by decide)
                have hwy64 : 2 ≤ Yy64.1 0 22 ∧ Yy64.1 0 22 ≤ 6 := by rw [(hFy64 0 22 rfl).1]; exact hw0
                have hhy64 : 2 ≤ Yy64.1 0 23 ∧ Yy64.1 0 23 ≤ 6 := by rw [(hFy64 0 23 rfl).1]; exact hh0
                refine Wx_st (st' := []) rfl ?_
                refine x_iload C dX12_findPaths_199 rfl ?_
                refine x_bipush C dX12_findPaths_201 (by decide) ?_
                refine x_icmp_ne (tgt := 213) C dX12_findPaths_203 (by decide) ⟨by omega, by omega⟩ ⟨by omega, by omega⟩ (fun h65 => ?_) (fun h65 => ?_)
                · refine x_goto (tgt := 82) C dX12_findPaths_213 (by decide) ?_
                  refine Wx_pick [3, 0] ?_
                  refine Wx_lv (lv' := [(3, .int (iI (v50))), (0, .ref 0)]) rfl ?_
                  exact ih _ _ (by omega) (by omega) (by omega) hHy64 hFy64 (hNy64.mono (by omega))
                · refine x_aload_n (i := 0) C dX12_findPaths_206 rfl rfl ?_
                  refine x_iload C dX12_findPaths_207 rfl ?_
                  refine x_iconst C dX12_findPaths_209 ?_
                  refine x_callV (As := [.int (iI (v45)), .int (iI (0))]) C (by exact (qf_pathsBy (sg := v45) (my := 0) (J := 12 * (i - 1) + 6) (by omega) (by omega) (by omega) (by omega) (by omega) (by omega) hHy64 FR.rf hNy64 hwy64 hhy64)) ckX12_421 im_X12_pathsBy se_X12_pathsBy (nlt rfl) rfl rfl rfl rfl (nle rfl) (by exact ⟨nle rfl, nle rfl⟩) dX12_findPaths_210 ?_
                  rintro _ Yy66 ⟨rfl, hHy66, hGy66, hNy66⟩
                  have hFy66 : FR (cMd k_M_100) X0 Yy66 := FR.tr hFy64 hGy66 (by decide)
                  have hwy66 : 2 ≤ Yy66.1 0 22 ∧ Yy66.1 0 22 ≤ 6 := by rw [(hFy66 0 22 rfl).1]; exact hw0
                  have hhy66 : 2 ≤ Yy66.1 0 23 ∧ Yy66.1 0 23 ≤ 6 := by rw [(hFy66 0 23 rfl).1]; exact hh0
                  refine Wx_st (st' := []) rfl ?_
                  refine x_goto (tgt := 82) C dX12_findPaths_213 (by decide) ?_
                  refine Wx_pick [3, 0] ?_
                  refine Wx_lv (lv' := [(3, .int (iI (v50))), (0, .ref 0)]) rfl ?_
                  exact ih _ _ (by omega) (by omega) (by omega) hHy66 hFy66 (hNy66.mono (by omega))
          · refine x_iconst C dX12_findPaths_161 ?_
            refine x_goto (tgt := 166) C dX12_findPaths_162 (by decide) ?_
            refine x_iadd C dX12_findPaths_166 ?_
            refine x_gen (fun v67 ev67 => ?_)
            refine x_istore_n (i := 3) (lv' := [(3, .int (iI (v67))), (5, .int (iI (v45))), (4, .int (iI (v3))), (0, .ref 0)]) C dX12_findPaths_167 rfl (nlt rfl) rfl ?_
            refine x_aload_n (i := 0) C dX12_findPaths_168 rfl rfl ?_
            refine x_iload C dX12_findPaths_169 rfl ?_
            refine x_callS (As := [.int (iI (v3))]) C (by exact (qf_isTurn (f := v3) (by omega) (by omega))) ckX12_364 sm_X12_isTurn rfl rfl (nle rfl) (by exact ⟨nle rfl, nle rfl⟩) dX12_findPaths_171 ?_
            rintro _ Xv68 ⟨hxv68, v68, rfl, ev68⟩
            rw [hxv68]
            refine Wx_st (st' := [.int (iI (v68)), .ref 0]) rfl ?_
            refine x_if_eq (tgt := 182) C dX12_findPaths_174 (by decide) ⟨by omega, by omega⟩ (fun h69 => ?_) (fun h69 => ?_)
            · refine x_iload C dX12_findPaths_182 rfl ?_
              refine x_iload C dX12_findPaths_184 rfl ?_
              refine x_bipush C dX12_findPaths_186 (by decide) ?_
              refine x_icmp_ne (tgt := 195) C dX12_findPaths_188 (by decide) ⟨by omega, by omega⟩ ⟨by omega, by omega⟩ (fun h70 => ?_) (fun h70 => ?_)
              · refine x_iconst C dX12_findPaths_195 ?_
                refine x_callV (As := [.int (iI (v3)), .int (iI (0))]) C (by exact (qf_pathsBy (sg := v3) (my := 0) (J := 12 * (i - 1)) (by omega) (by omega) (by omega) (by omega) (by omega) (by omega) hH FR.rf hcn hw hh)) ckX12_421 im_X12_pathsBy se_X12_pathsBy (nlt rfl) rfl rfl rfl rfl (nle rfl) (by exact ⟨nle rfl, nle rfl⟩) dX12_findPaths_196 ?_
                rintro _ Yy71 ⟨rfl, hHy71, hGy71, hNy71⟩
                have hFy71 : FR (cMd k_M_100) X0 Yy71 := FR.tr hF hGy71 (by decide)
                have hwy71 : 2 ≤ Yy71.1 0 22 ∧ Yy71.1 0 22 ≤ 6 := by rw [(hFy71 0 22 rfl).1]; exact hw0
                have hhy71 : 2 ≤ Yy71.1 0 23 ∧ Yy71.1 0 23 ≤ 6 := by rw [(hFy71 0 23 rfl).1]; exact hh0
                refine Wx_st (st' := []) rfl ?_
                refine x_iload C dX12_findPaths_199 rfl ?_
                refine x_bipush C dX12_findPaths_201 (by decide) ?_
                refine x_icmp_ne (tgt := 213) C dX12_findPaths_203 (by decide) ⟨by omega, by omega⟩ ⟨by omega, by omega⟩ (fun h72 => ?_) (fun h72 => ?_)
                · refine x_goto (tgt := 82) C dX12_findPaths_213 (by decide) ?_
                  refine Wx_pick [3, 0] ?_
                  refine Wx_lv (lv' := [(3, .int (iI (v67))), (0, .ref 0)]) rfl ?_
                  exact ih _ _ (by omega) (by omega) (by omega) hHy71 hFy71 (hNy71.mono (by omega))
                · refine x_aload_n (i := 0) C dX12_findPaths_206 rfl rfl ?_
                  refine x_iload C dX12_findPaths_207 rfl ?_
                  refine x_iconst C dX12_findPaths_209 ?_
                  refine x_callV (As := [.int (iI (v45)), .int (iI (0))]) C (by exact (qf_pathsBy (sg := v45) (my := 0) (J := 12 * (i - 1) + 6) (by omega) (by omega) (by omega) (by omega) (by omega) (by omega) hHy71 FR.rf hNy71 hwy71 hhy71)) ckX12_421 im_X12_pathsBy se_X12_pathsBy (nlt rfl) rfl rfl rfl rfl (nle rfl) (by exact ⟨nle rfl, nle rfl⟩) dX12_findPaths_210 ?_
                  rintro _ Yy73 ⟨rfl, hHy73, hGy73, hNy73⟩
                  have hFy73 : FR (cMd k_M_100) X0 Yy73 := FR.tr hFy71 hGy73 (by decide)
                  have hwy73 : 2 ≤ Yy73.1 0 22 ∧ Yy73.1 0 22 ≤ 6 := by rw [(hFy73 0 22 rfl).1]; exact hw0
                  have hhy73 : 2 ≤ Yy73.1 0 23 ∧ Yy73.1 0 23 ≤ 6 := by rw [(hFy73 0 23 rfl).1]; exact hh0
                  refine Wx_st (st' := []) rfl ?_
                  refine x_goto (tgt := 82) C dX12_findPaths_213 (by decide) ?_
                  refine Wx_pick [3, 0] ?_
                  refine Wx_lv (lv' := [(3, .int (iI (v67))), (0, .ref 0)]) rfl ?_
                  exact ih _ _ (by omega) (by omega) (by omega) hHy73 hFy73 (hNy73.mono (by omega))
              · refine x_iconst C dX12_findPaths_191 ?_
                refine x_goto (tgt := 196) C dX12_findPaths_192 (by decide) ?_
                refine x_callV (As := [.int (iI (v3)), .int (iI (1))]) C (by exact (qf_pathsBy (sg := v3) (my := 1) (J := 12 * (i - 1)) (by omega) (by omega) (by omega) (by omega) (by omega) (by omega) hH FR.rf hcn hw hh)) ckX12_421 im_X12_pathsBy se_X12_pathsBy (nlt rfl) rfl rfl rfl rfl (nle rfl) (by exact ⟨nle rfl, nle rfl⟩) dX12_findPaths_196 ?_
                rintro _ Yy74 ⟨rfl, hHy74, hGy74, hNy74⟩
                have hFy74 : FR (cMd k_M_100) X0 Yy74 := FR.tr hF hGy74 (by decide)
                have hwy74 : 2 ≤ Yy74.1 0 22 ∧ Yy74.1 0 22 ≤ 6 := by rw [(hFy74 0 22 rfl).1]; exact hw0
                have hhy74 : 2 ≤ Yy74.1 0 23 ∧ Yy74.1 0 23 ≤ 6 := by rw [(hFy74 0 23 rfl).1]; exact hh0
                refine Wx_st (st' := []) rfl ?_
                refine x_iload C dX12_findPaths_199 rfl ?_
                refine x_bipush C dX12_findPaths_201 (by decide) ?_
                refine x_icmp_ne (tgt := 213) C dX12_findPaths_203 (by decide) ⟨by omega, by omega⟩ ⟨by omega, by omega⟩ (fun h75 => ?_) (fun h75 => ?_)
                · refine x_goto (tgt := 82) C dX12_findPaths_213 (by decide) ?_
                  refine Wx_pick [3, 0] ?_
                  refine Wx_lv (lv' := [(3, .int (iI (v67))), (0, .ref 0)]) rfl ?_
                  exact ih _ _ (by omega) (by omega) (by omega) hHy74 hFy74 (hNy74.mono (by omega))
                · refine x_aload_n (i := 0) C dX12_findPaths_206 rfl rfl ?_
                  refine x_iload C dX12_findPaths_207 rfl ?_
                  refine x_iconst C dX12_findPaths_209 ?_
                  refine x_callV (As := [.int (iI (v45)), .int (iI (0))]) C (by exact (qf_pathsBy (sg := v45) (my := 0) (J := 12 * (i - 1) + 6) (by omega) (by omega) (by omega) (by omega) (by omega) (by omega) hHy74 FR.rf hNy74 hwy74 hhy74)) ckX12_421 im_X12_pathsBy se_X12_pathsBy (nlt rfl) rfl rfl rfl rfl (nle rfl) (by exact ⟨nle rfl, nle rfl⟩) dX12_findPaths_210 ?_
                  rintro _ Yy76 ⟨rfl, hHy76, hGy76, hNy76⟩
                  have hFy76 : FR (cMd k_M_100) X0 Yy76 := FR.tr hFy74 hGy76 (by decide)
                  have hwy76 : 2 ≤ Yy76.1 0 22 ∧ Yy76.1 0 22 ≤ 6 := by rw [(hFy76 0 22 rfl).1]; exact hw0
                  have hhy76 : 2 ≤ Yy76.1 0 23 ∧ Yy76.1 0 23 ≤ 6 := by rw [(hFy76 0 23 rfl).1]; exact hh0
                  refine Wx_st (st' := []) rfl ?_
                  refine x_goto (tgt := 82) C dX12_findPaths_213 (by decide) ?_
                  refine Wx_pick [3, 0] ?_
                  refine Wx_lv (lv' := [(3, .int (iI (v67))), (0, .ref 0)]) rfl ?_
                  exact ih _ _ (by omega) (by omega) (by omega) hHy76 hFy76 (hNy76.mono (by omega))
            · refine x_iload C dX12_findPaths_177 rfl ?_
              refine x_goto (tgt := 184) C dX12_findPaths_179 (by decide) ?_
              refine x_iload C dX12_findPaths_184 rfl ?_
              refine x_bipush C dX12_findPaths_186 (by decide) ?_
              refine x_icmp_ne (tgt := 195) C dX12_findPaths_188 (by decide) ⟨by omega, by omega⟩ ⟨by omega, by omega⟩ (fun h77 => ?_) (fun h77 => ?_)
              · refine x_iconst C dX12_findPaths_195 ?_
                refine x_callV (As := [.int (iI (v45)), .int (iI (0))]) C (by exact (qf_pathsBy (sg := v45) (my := 0) (J := 12 * (i - 1)) (by omega) (by omega) (by omega) (by omega) (by omega) (by omega) hH FR.rf hcn hw hh)) ckX12_421 im_X12_pathsBy se_X12_pathsBy (nlt rfl) rfl rfl rfl rfl (nle rfl) (by exact ⟨nle rfl, nle rfl⟩) dX12_findPaths_196 ?_
                rintro _ Yy78 ⟨rfl, hHy78, hGy78, hNy78⟩
                have hFy78 : FR (cMd k_M_100) X0 Yy78 := FR.tr hF hGy78 (by decide)
                have hwy78 : 2 ≤ Yy78.1 0 22 ∧ Yy78.1 0 22 ≤ 6 := by rw [(hFy78 0 22 rfl).1]; exact hw0
                have hhy78 : 2 ≤ Yy78.1 0 23 ∧ Yy78.1 0 23 ≤ 6 := by rw [(hFy78 0 23 rfl).1]; exact hh0
                refine Wx_st (st' := []) rfl ?_
                refine x_iload C dX12_findPaths_199 rfl ?_
                refine x_bipush C dX12_findPaths_201 (by decide) ?_
                refine x_icmp_ne (tgt := 213) C dX12_findPaths_203 (by decide) ⟨by omega, by omega⟩ ⟨by omega, by omega⟩ (fun h79 => ?_) (fun h79 => ?_)
                · refine x_goto (tgt := 82) C dX12_findPaths_213 (by decide) ?_
                  refine Wx_pick [3, 0] ?_
                  refine Wx_lv (lv' := [(3, .int (iI (v67))), (0, .ref 0)]) rfl ?_
                  exact ih _ _ (by omega) (by omega) (by omega) hHy78 hFy78 (hNy78.mono (by omega))
                · refine x_aload_n (i := 0) C dX12_findPaths_206 rfl rfl ?_
                  refine x_iload C dX12_findPaths_207 rfl ?_
                  refine x_iconst C dX12_findPaths_209 ?_
                  refine x_callV (As := [.int (iI (v45)), .int (iI (0))]) C (by exact (qf_pathsBy (sg := v45) (my := 0) (J := 12 * (i - 1) + 6) (by omega) (by omega) (by omega) (by omega) (by omega) (by omega) hHy78 FR.rf hNy78 hwy78 hhy78)) ckX12_421 im_X12_pathsBy se_X12_pathsBy (nlt rfl) rfl rfl rfl rfl (nle rfl) (by exact ⟨nle rfl, nle rfl⟩) dX12_findPaths_210 ?_
                  rintro _ Yy80 ⟨rfl, hHy80, hGy80, hNy80⟩
                  have hFy80 : FR (cMd k_M_100) X0 Yy80 := FR.tr hFy78 hGy80 (by decide)
                  have hwy80 : 2 ≤ Yy80.1 0 22 ∧ Yy80.1 0 22 ≤ 6 := by rw [(hFy80 0 22 rfl).1]; exact hw0
                  have hhy80 : 2 ≤ Yy80.1 0 23 ∧ Yy80.1 0 23 ≤ 6 := by rw [(hFy80 0 23 rfl).1]; exact hh0
                  refine Wx_st (st' := []) rfl ?_
                  refine x_goto (tgt := 82) C dX12_findPaths_213 (by decide) ?_
                  refine Wx_pick [3, 0] ?_
                  refine Wx_lv (lv' := [(3, .int (iI (v67))), (0, .ref 0)]) rfl ?_
                  exact ih _ _ (by omega) (by omega) (by omega) hHy80 hFy80 (hNy80.mono (by omega))
              · refine x_iconst C dX12_findPaths_191 ?_
                refine x_goto (tgt := 196) C dX12_findPaths_192 (by decide) ?_
                refine x_callV (As := [.int (iI (v45)), .int (iI (1))]) C (by exact (qf_pathsBy (sg := v45) (my := 1) (J := 12 * (i - 1)) (by omega) (by omega) (by omega) (by omega) (by omega) (by omega) hH FR.rf hcn hw hh)) ckX12_421 im_X12_pathsBy se_X12_pathsBy (nlt rfl) rfl rfl rfl rfl (nle rfl) (by exact ⟨nle rfl, nle rfl⟩) dX12_findPaths_196 ?_
                rintro _ Yy81 ⟨rfl, hHy81, hGy81, hNy81⟩
                have hFy81 : FR (cMd k_M_100) X0 Yy81 := FR.tr hF hGy81 (by decide)
                have hwy81 : 2 ≤ Yy81.1 0 22 ∧ Yy81.1 0 22 ≤ 6 := by rw [(hFy81 0 22 rfl).1]; exact hw0
                have hhy81 : 2 ≤ Yy81.1 0 23 ∧ Yy81.1 0 23 ≤ 6 := by rw [(hFy81 0 23 rfl).1]; exact hh0
                refine Wx_st (st' := []) rfl ?_
                refine x_iload C dX12_findPaths_199 rfl ?_
                refine x_bipush C dX12_findPaths_201 (by decide) ?_
                refine x_icmp_ne (tgt := 213) C dX12_findPaths_203 (by decide) ⟨by omega, by omega⟩ ⟨by omega, by omega⟩ (fun h82 => ?_) (fun h82 => ?_)
                · refine x_goto (tgt := 82) C dX12_findPaths_213 (by decide) ?_
                  refine Wx_pick [3, 0] ?_
                  refine Wx_lv (lv' := [(3, .int (iI (v67))), (0, .ref 0)]) rfl ?_
                  exact ih _ _ (by omega) (by omega) (by omega) hHy81 hFy81 (hNy81.mono (by omega))
                · refine x_aload_n (i := 0) C dX12_findPaths_206 rfl rfl ?_
                  refine x_iload C dX12_findPaths_207 rfl ?_
                  refine x_iconst C dX12_findPaths_209 ?_
                  refine x_callV (As := [.int (iI (v45)), .int (iI (0))]) C (by exact (qf_pathsBy (sg := v45) (my := 0) (J := 12 * (i - 1) + 6) (by omega) (by omega) (by omega) (by omega) (by omega) (by omega) hHy81 FR.rf hNy81 hwy81 hhy81)) ckX12_421 im_X12_pathsBy se_X12_pathsBy (nlt rfl) rfl rfl rfl rfl (nle rfl) (by exact ⟨nle rfl, nle rfl⟩) dX12_findPaths_210 ?_
                  rintro _ Yy83 ⟨rfl, hHy83, hGy83, hNy83⟩
                  have hFy83 : FR (cMd k_M_100) X0 Yy83 := FR.tr hFy81 hGy83 (by decide)
                  have hwy83 : 2 ≤ Yy83.1 0 22 ∧ Yy83.1 0 22 ≤ 6 := by rw [(hFy83 0 22 rfl).1]; exact hw0
                  have hhy83 : 2 ≤ Yy83.1 0 23 ∧ Yy83.1 0 23 ≤ 6 := by rw [(hFy83 0 23 rfl).1]; exact hh0
                  refine Wx_st (st' := []) rfl ?_
                  refine x_goto (tgt := 82) C dX12_findPaths_213 (by decide) ?_
                  refine Wx_pick [3, 0] ?_
                  refine Wx_lv (lv' := [(3, .int (iI (v67))), (0, .ref 0)]) rfl ?_
                  exact ih _ _ (by omega) (by omega) (by omega) hHy83 hFy83 (hNy83.mono (by omega))
        · refine x_iload C dX12_findPaths_135 rfl ?_
          refine x_iconst C dX12_findPaths_137 ?_
          refine x_icmp_eq (tgt := 82) C dX12_findPaths_138 (by decide) ⟨by omega, by omega⟩ ⟨by omega, by omega⟩ (fun h84 => ?_) (fun h84 => ?_)
          · refine Wx_pick [3, 0] ?_
            refine Wx_lv (lv' := [(3, .int (iI (i + 1))), (0, .ref 0)]) rfl ?_
            exact ih _ _ (by omega) (by omega) (by omega) hH hF (hcn.mono (by omega))
          · refine x_iload C dX12_findPaths_141 rfl ?_
            refine x_callS (As := [.int (iI (v45))]) C (by exact (qf_isTurn (f := v45) (by omega) (by omega))) ckX12_364 sm_X12_isTurn rfl rfl (nle rfl) (by exact ⟨nle rfl, nle rfl⟩) dX12_findPaths_143 ?_
            rintro _ Xv85 ⟨hxv85, v85, rfl, ev85⟩
            rw [hxv85]
            refine Wx_st (st' := [.int (iI (v85))]) rfl ?_
            refine x_if_eq (tgt := 152) C dX12_findPaths_146 (by decide) ⟨by omega, by omega⟩ (fun h86 => ?_) (fun h86 => ?_)
            · refine x_iload_n (i := 3) C dX12_findPaths_152 rfl rfl ?_
              refine x_iload C dX12_findPaths_153 rfl ?_
              refine x_callS (As := [.int (iI (v3))]) C (by exact (qf_isTurn (f := v3) (by omega) (by omega))) ckX12_364 sm_X12_isTurn rfl rfl (nle rfl) (by exact ⟨nle rfl, nle rfl⟩) dX12_findPaths_155 ?_
              rintro _ Xv87 ⟨hxv87, v87, rfl, ev87⟩
              rw [hxv87]
              refine Wx_st (st' := [.int (iI (v87)), .int (iI (i + 1))]) rfl ?_
              refine x_if_eq (tgt := 165) C dX12_findPaths_158 (by decide) ⟨by omega, by omega⟩ (fun h88 => ?_) (fun h88 => ?_)
              · refine x_iconst C dX12_findPaths_165 ?_
                refine x_iadd C dX12_findPaths_166 ?_
                refine x_gen (fun v89 ev89 => ?_)
                refine x_istore_n (i := 3) (lv' := [(3, .int (iI (v89))), (5, .int (iI (v45))), (4, .int (iI (v3))), (0, .ref 0)]) C dX12_findPaths_167 rfl (nlt rfl) rfl ?_
                refine x_aload_n (i := 0) C dX12_findPaths_168 rfl rfl ?_
                refine x_iload C dX12_findPaths_169 rfl ?_
                refine x_callS (As := [.int (iI (v3))]) C (by exact (qf_isTurn (f := v3) (by omega) (by omega))) ckX12_364 sm_X12_isTurn rfl rfl (nle rfl) (by exact ⟨nle rfl, nle rfl⟩) dX12_findPaths_171 ?_
                rintro _ Xv90 ⟨hxv90, v90, rfl, ev90⟩
                rw [hxv90]
                refine Wx_st (st' := [.int (iI (v90)), .ref 0]) rfl ?_
                refine x_if_eq (tgt := 182) C dX12_findPaths_174 (by decide) ⟨by omega, by omega⟩ (fun h91 => ?_) (fun h91 => ?_)
                · refine x_iload C dX12_findPaths_182 rfl ?_
                  refine x_iload C dX12_findPaths_184 rfl ?_
                  refine x_bipush C dX12_findPaths_186 (by decide) ?_
                  refine x_icmp_ne (tgt := 195) C dX12_findPaths_188 (by decide) ⟨by omega, by omega⟩ ⟨by omega, by omega⟩ (fun h92 => ?_) (fun h92 => ?_)
                  · refine x_iconst C dX12_findPaths_195 ?_
                    refine x_callV (As := [.int (iI (v3)), .int (iI (0))]) C (by exact (qf_pathsBy (sg := v3) (my := 0) (J := 12 * (i - 1)) (by omega) (by omega) (by omega) (by omega) (by omega) (by omega) hH FR.rf hcn hw hh)) ckX12_421 im_X12_pathsBy se_X12_pathsBy (nlt rfl) rfl rfl rfl rfl (nle rfl) (by exact ⟨nle rfl, nle rfl⟩) dX12_findPaths_196 ?_
                    rintro _ Yy93 ⟨rfl, hHy93, hGy93, hNy93⟩
                    have hFy93 : FR (cMd k_M_100) X0 Yy93 := FR.tr hF hGy93 (by decide)
                    have hwy93 : 2 ≤ Yy93.1 0 22 ∧ Yy93.1 0 22 ≤ 6 := by rw [(hFy93 0 22 rfl).1]; exact hw0
                    have hhy93 : 2 ≤ Yy93.1 0 23 ∧ Yy93.1 0 23 ≤ 6 := by rw [(hFy93 0 23 rfl).1]; exact hh0
                    refine Wx_st (st' := []) rfl ?_
                    refine x_iload C dX12_findPaths_199 rfl ?_
                    refine x_bipush C dX12_findPaths_201 (by decide) ?_
                    refine x_icmp_ne (tgt := 213) C dX12_findPaths_203 (by decide) ⟨by omega, by omega⟩ ⟨by omega, by omega⟩ (fun h94 => ?_) (fun h94 => ?_)
                    · refine x_goto (tgt := 82) C dX12_findPaths_213 (by decide) ?_
                      refine Wx_pick [3, 0] ?_
                      refine Wx_lv (lv' := [(3, .int (iI (v89))), (0, .ref 0)]) rfl ?_
                      exact ih _ _ (by omega) (by omega) (by omega) hHy93 hFy93 (hNy93.mono (by omega))
                    · refine x_aload_n (i := 0) C dX12_findPaths_206 rfl rfl ?_
                      refine x_iload C dX12_findPaths_207 rfl ?_
                      refine x_iconst C dX12_findPaths_209 ?_
                      refine x_callV (As := [.int (iI (v45)), .int (iI (0))]) C (by exact (qf_pathsBy (sg := v45) (my := 0) (J := 12 * (i - 1) + 6) (by omega) (by omega) (by omega) (by omega) (by omega) (by omega) hHy93 FR.rf hNy93 hwy93 hhy93)) ckX12_421 im_X12_pathsBy se_X12_pathsBy (nlt rfl) rfl rfl rfl rfl (nle rfl) (by exact ⟨nle rfl, nle rfl⟩) dX12_findPaths_210 ?_
                      rintro _ Yy95 ⟨rfl, hHy95, hGy95, hNy95⟩
                      have hFy95 : FR (cMd k_M_100) X0 Yy95 := FR.tr hFy93 hGy95 (by decide)
                      have hwy95 : 2 ≤ Yy95.1 0 22 ∧ Yy95.1 0 22 ≤ 6 := by rw [(hFy95 0 22 rfl).1]; exact hw0
                      have hhy95 : 2 ≤ Yy95.1 0 23 ∧ Yy95.1 0 23 ≤ 6 := by rw [(hFy95 0 23 rfl).1]; exact hh0
                      refine Wx_st (st' := []) rfl ?_
                      refine x_goto (tgt := 82) C dX12_findPaths_213 (by decide) ?_
                      refine Wx_pick [3, 0] ?_
                      refine Wx_lv (lv' := [(3, .int (iI (v89))), (0, .ref 0)]) rfl ?_
                      exact ih _ _ (by omega) (by omega) (by omega) hHy95 hFy95 (hNy95.mono (by omega))
                  · refine x_iconst C dX12_findPaths_191 ?_
                    refine x_goto (tgt := 196) C dX12_findPaths_192 (by decide) ?_
                    refine x_callV (As := [.int (iI (v3)), .int (iI (1))]) C (by exact (qf_pathsBy (sg := v3) (my := 1) (J := 12 * (i - 1)) (by omega) (by omega) (by omega) (by omega) (by omega) (by omega) hH FR.rf hcn hw hh)) ckX12_421 im_X12_pathsBy se_X12_pathsBy (nlt rfl) rfl rfl rfl rfl (nle rfl) (by exact ⟨nle rfl, nle rfl⟩) dX12_findPaths_196 ?_
                    rintro _ Yy96 ⟨rfl, hHy96, hGy96, hNy96⟩
                    have hFy96 : FR (cMd k_M_100) X0 Yy96 := FR.tr hF hGy96 (by decide)
                    have hwy96 : 2 ≤ Yy96.1 0 22 ∧ Yy96.1 0 22 ≤ 6 := by rw [(hFy96 0 22 rfl).1]; exact hw0
                    have hhy96 : 2 ≤ Yy96.1 0 23 ∧ Yy96.1 0 23 ≤ 6 := by rw [(hFy96 0 23 rfl).1]; exact hh0
                    refine Wx_st (st' := []) rfl ?_
                    refine x_iload C dX12_findPaths_199 rfl ?_
                    refine x_bipush C dX12_findPaths_201 (by decide) ?_
                    refine x_icmp_ne (tgt := 213) C dX12_findPaths_203 (by decide) ⟨by omega, by omega⟩ ⟨by omega, by omega⟩ (fun h97 => ?_) (fun h97 => ?_)
                    · refine x_goto (tgt := 82) C dX12_findPaths_213 (by decide) ?_
                      refine Wx_pick [3, 0] ?_
                      refine Wx_lv (lv' := [(3, .int (iI (v89))), (0, .ref 0)]) rfl ?_
                      exact ih _ _ (by omega) (by omega) (by omega) hHy96 hFy96 (hNy96.mono (by omega))
                    · refine x_aload_n (i := 0) C dX12_findPaths_206 rfl rfl ?_
                      refine x_iload C dX12_findPaths_207 rfl ?_
                      refine x_iconst C dX12_findPaths_209 ?_
                      refine x_callV (As := [.int (iI (v45)), .int (iI (0))]) C (by exact (qf_pathsBy (sg := v45) (my := 0) (J := 12 * (i - 1) + 6) (by omega) (by omega) (by omega) (by omega) (by omega) (by omega) hHy96 FR.rf hNy96 hwy96 hhy96)) ckX12_421 im_X12_pathsBy se_X12_pathsBy (nlt rfl) rfl rfl rfl rfl (nle rfl) (by exact ⟨nle rfl, nle rfl⟩) dX12_findPaths_210 ?_
                      rintro _ Yy98 ⟨rfl, hHy98, hGy98, hNy98⟩
                      have hFy98 : FR (cMd k_M_100) X0 Yy98 := FR.tr hFy96 hGy98 (by decide)
                      have hwy98 : 2 ≤ Yy98.1 0 22 ∧ Yy98.1 0 22 ≤ 6 := by rw [(hFy98 0 22 rfl).1]; exact hw0
                      have hhy98 : 2 ≤ Yy98.1 0 23 ∧ Yy98.1 0 23 ≤ 6 := by rw [(hFy98 0 23 rfl).1]; exact hh0
                      refine Wx_st (st' := []) rfl ?_
                      refine x_goto (tgt := 82) C dX12_findPaths_213 (by decide) ?_
                      refine Wx_pick [3, 0] ?_
                      refine Wx_lv (lv' := [(3, .int (iI (v89))), (0, .ref 0)]) rfl ?_
                      exact ih _ _ (by omega) (by omega) (by omega) hHy98 hFy98 (hNy98.mono (by omega))
                · refine x_iload C dX12_findPaths_177 rfl ?_
                  refine x_goto (tgt := 184) C dX12_findPaths_179 (by decide) ?_
                  refine x_iload C dX12_findPaths_184 rfl ?_
                  refine x_bipush C dX12_findPaths_186 (by decide) ?_
                  refine x_icmp_ne (tgt := 195) C dX12_findPaths_188 (by decide) ⟨by omega, by omega⟩ ⟨by omega, by omega⟩ (fun h99 => ?_) (fun h99 => ?_)
                  · refine x_iconst C dX12_findPaths_195 ?_
                    refine x_callV (As := [.int (iI (v45)), .int (iI (0))]) C (by exact (qf_pathsBy (sg := v45) (my := 0) (J := 12 * (i - 1)) (by omega) (by omega) (by omega) (by omega) (by omega) (by omega) hH FR.rf hcn hw hh)) ckX12_421 im_X12_pathsBy se_X12_pathsBy (nlt rfl) rfl rfl rfl rfl (nle rfl) (by exact ⟨nle rfl, nle rfl⟩) dX12_findPaths_196 ?_
                    rintro _ Yy100 ⟨rfl, hHy100, hGy100, hNy100⟩
                    have hFy100 : FR (cMd k_M_100) X0 Yy100 := FR.tr hF hGy100 (by decide)
                    have hwy100 : 2 ≤ Yy100.1 0 22 ∧ Yy100.1 0 22 ≤ 6 := by rw [(hFy100 0 22 rfl).1]; exact hw0
                    have hhy100 : 2 ≤ Yy100.1 0 23 ∧ Yy100.1 0 23 ≤ 6 := by rw [(hFy100 0 23 rfl).1]; exact hh0
                    refine Wx_st (st' := []) rfl ?_
                    refine x_iload C dX12_findPaths_199 rfl ?_
                    refine x_bipush C dX12_findPaths_201 (by decide) ?_
                    refine x_icmp_ne (tgt := 213) C dX12_findPaths_203 (by decide) ⟨by omega, by omega⟩ ⟨by omega, by omega⟩ (fun h101 => ?_) (fun h101 => ?_)
                    · refine x_goto (tgt := 82) C dX12_findPaths_213 (by decide) ?_
                      refine Wx_pick [3, 0] ?_
                      refine Wx_lv (lv' := [(3, .int (iI (v89))), (0, .ref 0)]) rfl ?_
                      exact ih _ _ (by omega) (by omega) (by omega) hHy100 hFy100 (hNy100.mono (by omega))
                    · refine x_aload_n (i := 0) C dX12_findPaths_206 rfl rfl ?_
                      refine x_iload C dX12_findPaths_207 rfl ?_
                      refine x_iconst C dX12_findPaths_209 ?_
                      refine x_callV (As := [.int (iI (v45)), .int (iI (0))]) C (by exact (qf_pathsBy (sg := v45) (my := 0) (J := 12 * (i - 1) + 6) (by omega) (by omega) (by omega) (by omega) (by omega) (by omega) hHy100 FR.rf hNy100 hwy100 hhy100)) ckX12_421 im_X12_pathsBy se_X12_pathsBy (nlt rfl) rfl rfl rfl rfl (nle rfl) (by exact ⟨nle rfl, nle rfl⟩) dX12_findPaths_210 ?_
                      rintro _ Yy102 ⟨rfl, hHy102, hGy102, hNy102⟩
                      have hFy102 : FR (cMd k_M_100) X0 Yy102 := FR.tr hFy100 hGy102 (by decide)
                      have hwy102 : 2 ≤ Yy102.1 0 22 ∧ Yy102.1 0 22 ≤ 6 := by rw [(hFy102 0 22 rfl).1]; exact hw0
                      have hhy102 : 2 ≤ Yy102.1 0 23 ∧ Yy102.1 0 23 ≤ 6 := by rw [(hFy102 0 23 rfl).1]; exact hh0
                      refine Wx_st (st' := []) rfl ?_
                      refine x_goto (tgt := 82) C dX12_findPaths_213 (by decide) ?_
                      refine Wx_pick [3, 0] ?_
                      refine Wx_lv (lv' := [(3, .int (iI (v89))), (0, .ref 0)]) rfl ?_
                      exact ih _ _ (by omega) (by omega) (by omega) hHy102 hFy102 (hNy102.mono (by omega))
                  · refine x_iconst C dX12_findPaths_191 ?_
                    refine x_goto (tgt := 196) C dX12_findPaths_192 (by decide) ?_
                    refine x_callV (As := [.int (iI (v45)), .int (iI (1))]) C (by exact (qf_pathsBy (sg := v45) (my := 1) (J := 12 * (i - 1)) (by omega) (by omega) (by omega) (by omega) (by omega) (by omega) hH FR.rf hcn hw hh)) ckX12_421 im_X12_pathsBy se_X12_pathsBy (nlt rfl) rfl rfl rfl rfl (nle rfl) (by exact ⟨nle rfl, nle rfl⟩) dX12_findPaths_196 ?_
                    rintro _ Yy103 ⟨rfl, hHy103, hGy103, hNy103⟩
                    have hFy103 : FR (cMd k_M_100) X0 Yy103 := FR.tr hF hGy103 (by decide)
                    have hwy103 : 2 ≤ Yy103.1 0 22 ∧ Yy103.1 0 22 ≤ 6 := by rw [(hFy103 0 22 rfl).1]; exact hw0
                    have hhy103 : 2 ≤ Yy103.1 0 23 ∧ Yy103.1 0 23 ≤ 6 := by rw [(hFy103 0 23 rfl).1]; exact hh0
                    refine Wx_st (st' := []) rfl ?_
                    refine x_iload C dX12_findPaths_199 rfl ?_
                    refine x_bipush C dX12_findPaths_201 (by decide) ?_
                    refine x_icmp_ne (tgt := 213) C dX12_findPaths_203 (by decide) ⟨by omega, by omega⟩ ⟨by omega, by omega⟩ (fun h104 => ?_) (fun h104 => ?_)
                    · refine x_goto (tgt := 82) C dX12_findPaths_213 (by decide) ?_
                      refine Wx_pick [3, 0] ?_
                      refine Wx_lv (lv' := [(3, .int (iI (v89))), (0, .ref 0)]) rfl ?_
                      exact ih _ _ (by omega) (by omega) (by omega) hHy103 hFy103 (hNy103.mono (by omega))
                    · refine x_aload_n (i := 0) C dX12_findPaths_206 rfl rfl ?_
                      refine x_iload C dX12_findPaths_207 rfl ?_
                      refine x_iconst C dX12_findPaths_209 ?_
                      refine x_callV (As := [.int (iI (v45)), .int (iI (0))]) C (by exact (qf_pathsBy (sg := v45) (my := 0) (J := 12 * (i - 1) + 6) (by omega) (by omega) (by omega) (by omega) (by omega) (by omega) hHy103 FR.rf hNy103 hwy103 hhy103)) ckX12_421 im_X12_pathsBy se_X12_pathsBy (nlt rfl) rfl rfl rfl rfl (nle rfl) (by exact ⟨nle rfl, nle rfl⟩) dX12_findPaths_210 ?_
                      rintro _ Yy105 ⟨rfl, hHy105, hGy105, hNy105⟩
                      have hFy105 : FR (cMd k_M_100) X0 Yy105 := FR.tr hFy103 hGy105 (by decide)
                      have hwy105 : 2 ≤ Yy105.1 0 22 ∧ Yy105.1 0 22 ≤ 6 := by rw [(hFy105 0 22 rfl).1]; exact hw0
                      have hhy105 : 2 ≤ Yy105.1 0 23 ∧ Yy105.1 0 23 ≤ 6 := by rw [(hFy105 0 23 rfl).1]; exact hh0
                      refine Wx_st (st' := []) rfl ?_
                      refine x_goto (tgt := 82) C dX12_findPaths_213 (by decide) ?_
                      refine Wx_pick [3, 0] ?_
                      refine Wx_lv (lv' := [(3, .int (iI (v89))), (0, .ref 0)]) rfl ?_
                      exact ih _ _ (by omega) (by omega) (by omega) hHy105 hFy105 (hNy105.mono (by omega))
              · refine x_iconst C dX12_findPaths_161 ?_
                refine x_goto (tgt := 166) C dX12_findPaths_162 (by decide) ?_
                refine x_iadd C dX12_findPaths_166 ?_
                refine x_gen (fun v106 ev106 => ?_)
                refine x_istore_n (i := 3) (lv' := [(3, .int (iI (v106))), (5, .int (iI (v45))), (4, .int (iI (v3))), (0, .ref 0)]) C dX12_findPaths_167 rfl (nlt rfl) rfl ?_
                refine x_aload_n (i := 0) C dX12_findPaths_168 rfl rfl ?_
                refine x_iload C dX12_findPaths_169 rfl ?_
                refine x_callS (As := [.int (iI (v3))]) C (by exact (qf_isTurn (f := v3) (by omega) (by omega))) ckX12_364 sm_X12_isTurn rfl rfl (nle rfl) (by exact ⟨nle rfl, nle rfl⟩) dX12_findPaths_171 ?_
                rintro _ Xv107 ⟨hxv107, v107, rfl, ev107⟩
                rw [hxv107]
                refine Wx_st (st' := [.int (iI (v107)), .ref 0]) rfl ?_
                refine x_if_eq (tgt := 182) C dX12_findPaths_174 (by decide) ⟨by omega, by omega⟩ (fun h108 => ?_) (fun h108 => ?_)
                · refine x_iload C dX12_findPaths_182 rfl ?_
                  refine x_iload C dX12_findPaths_184 rfl ?_
                  refine x_bipush C dX12_findPaths_186 (by decide) ?_
                  refine x_icmp_ne (tgt := 195) C dX12_findPaths_188 (by decide) ⟨by omega, by omega⟩ ⟨by omega, by omega⟩ (fun h109 => ?_) (fun h109 => ?_)
                  · refine x_iconst C dX12_findPaths_195 ?_
                    refine x_callV (As := [.int (iI (v3)), .int (iI (0))]) C (by exact (qf_pathsBy (sg := v3) (my := 0) (J := 12 * (i - 1)) (by omega) (by omega) (by omega) (by omega) (by omega) (by omega) hH FR.rf hcn hw hh)) ckX12_421 im_X12_pathsBy se_X12_pathsBy (nlt rfl) rfl rfl rfl rfl (nle rfl) (by exact ⟨nle rfl, nle rfl⟩) dX12_findPaths_196 ?_
                    rintro _ Yy110 ⟨rfl, hHy110, hGy110, hNy110⟩
                    have hFy110 : FR (cMd k_M_100) X0 Yy110 := FR.tr hF hGy110 (by decide)
                    have hwy110 : 2 ≤ Yy110.1 0 22 ∧ Yy110.1 0 22 ≤ 6 := by rw [(hFy110 0 22 rfl).1]; exact hw0
                    have hhy110 : 2 ≤ Yy110.1 0 23 ∧ Yy110.1 0 23 ≤ 6 := by rw [(hFy110 0 23 rfl).1]; exact hh0
                    refine Wx_st (st' := []) rfl ?_
                    refine x_iload C dX12_findPaths_199 rfl ?_
                    refine x_bipush C dX12_findPaths_201 (by decide) ?_
                    refine x_icmp_ne (tgt := 213) C dX12_findPaths_203 (by decide) ⟨by omega, by omega⟩ ⟨by omega, by omega⟩ (fun h111 => ?_) (fun h111 => ?_)
                    · refine x_goto (tgt := 82) C dX12_findPaths_213 (by decide) ?_
                      refine Wx_pick [3, 0] ?_
                      refine Wx_lv (lv' := [(3, .int (iI (v106))), (0, .ref 0)]) rfl ?_
                      exact ih _ _ (by omega) (by omega) (by omega) hHy110 hFy110 (hNy110.mono (by omega))
                    · refine x_aload_n (i := 0) C dX12_findPaths_206 rfl rfl ?_
                      refine x_iload C dX12_findPaths_207 rfl ?_
                      refine x_iconst C dX12_findPaths_209 ?_
                      refine x_callV (As := [.int (iI (v45)), .int (iI (0))]) C (by exact (qf_pathsBy (sg := v45) (my := 0) (J := 12 * (i - 1) + 6) (by omega) (by omega) (by omega) (by omega) (by omega) (by omega) hHy110 FR.rf hNy110 hwy110 hhy110)) ckX12_421 im_X12_pathsBy se_X12_pathsBy (nlt rfl) rfl rfl rfl rfl (nle rfl) (by exact ⟨nle rfl, nle rfl⟩) dX12_findPaths_210 ?_
                      rintro _ Yy112 ⟨rfl, hHy112, hGy112, hNy112⟩
                      have hFy112 : FR (cMd k_M_100) X0 Yy112 := FR.tr hFy110 hGy112 (by decide)
                      have hwy112 : 2 ≤ Yy112.1 0 22 ∧ Yy112.1 0 22 ≤ 6 := by rw [(hFy112 0 22 rfl).1]; exact hw0
                      have hhy112 : 2 ≤ Yy112.1 0 23 ∧ Yy112.1 0 23 ≤ 6 := by rw [(hFy112 0 23 rfl).1]; exact hh0
                      refine Wx_st (st' := []) rfl ?_
                      refine x_goto (tgt := 82) C dX12_findPaths_213 (by decide) ?_
                      refine Wx_pick [3, 0] ?_
                      refine Wx_lv (lv' := [(3, .int (iI (v106))), (0, .ref 0)]) rfl ?_
                      exact ih _ _ (by omega) (by omega) (by omega) hHy112 hFy112 (hNy112.mono (by omega))
                  · refine x_iconst C dX12_findPaths_191 ?_
                    refine x_goto (tgt := 196) C dX12_findPaths_192 (by decide) ?_
                    refine x_callV (As := [.int (iI (v3)), .int (iI (1))]) C (by exact (qf_pathsBy (sg := v3) (my := 1) (J := 12 * (i - 1)) (by omega) (by omega) (by omega) (by omega) (by omega) (by omega) hH FR.rf hcn hw hh)) ckX12_421 im_X12_pathsBy se_X12_pathsBy (nlt rfl) rfl rfl rfl rfl (nle rfl) (by exact ⟨nle rfl, nle rfl⟩) dX12_findPaths_196 ?_
                    rintro _ Yy113 ⟨rfl, hHy113, hGy113, hNy113⟩
                    have hFy113 : FR (cMd k_M_100) X0 Yy113 := FR.tr hF hGy113 (by decide)
                    have hwy113 : 2 ≤ Yy113.1 0 22 ∧ Yy113.1 0 22 ≤ 6 := by rw [(hFy113 0 22 rfl).1]; exact hw0
                    have hhy113 : 2 ≤ Yy113.1 0 23 ∧ Yy113.1 0 23 ≤ 6 := by rw [(hFy113 0 23 rfl).1]; exact hh0
                    refine Wx_st (st' := []) rfl ?_
                    refine x_iload C dX12_findPaths_199 rfl ?_
                    refine x_bipush C dX12_findPaths_201 (by decide) ?_
                    refine x_icmp_ne (tgt := 213) C dX12_findPaths_203 (by decide) ⟨by omega, by omega⟩ ⟨by omega, by omega⟩ (fun h114 => ?_) (fun h114 => ?_)
                    · refine x_goto (tgt := 82) C dX12_findPaths_213 (by decide) ?_
                      refine Wx_pick [3, 0] ?_
                      refine Wx_lv (lv' := [(3, .int (iI (v106))), (0, .ref 0)]) rfl ?_
                      exact ih _ _ (by omega) (by omega) (by omega) hHy113 hFy113 (hNy113.mono (by omega))
                    · refine x_aload_n (i := 0) C dX12_findPaths_206 rfl rfl ?_
                      refine x_iload C dX12_findPaths_207 rfl ?_
                      refine x_iconst C dX12_findPaths_209 ?_
                      refine x_callV (As := [.int (iI (v45)), .int (iI (0))]) C (by exact (qf_pathsBy (sg := v45) (my := 0) (J := 12 * (i - 1) + 6) (by omega) (by omega) (by omega) (by omega) (by omega) (by omega) hHy113 FR.rf hNy113 hwy113 hhy113)) ckX12_421 im_X12_pathsBy se_X12_pathsBy (nlt rfl) rfl rfl rfl rfl (nle rfl) (by exact ⟨nle rfl, nle rfl⟩) dX12_findPaths_210 ?_
                      rintro _ Yy115 ⟨rfl, hHy115, hGy115, hNy115⟩
                      have hFy115 : FR (cMd k_M_100) X0 Yy115 := FR.tr hFy113 hGy115 (by decide)
                      have hwy115 : 2 ≤ Yy115.1 0 22 ∧ Yy115.1 0 22 ≤ 6 := by rw [(hFy115 0 22 rfl).1]; exact hw0
                      have hhy115 : 2 ≤ Yy115.1 0 23 ∧ Yy115.1 0 23 ≤ 6 := by rw [(hFy115 0 23 rfl).1]; exact hh0
                      refine Wx_st (st' := []) rfl ?_
                      refine x_goto (tgt := 82) C dX12_findPaths_213 (by decide) ?_
                      refine Wx_pick [3, 0] ?_
                      refine Wx_lv (lv' := [(3, .int (iI (v106))), (0, .ref 0)]) rfl ?_
                      exact ih _ _ (by omega) (by omega) (by omega) hHy115 hFy115 (hNy115.mono (by omega))
                · refine x_iload C dX12_findPaths_177 rfl ?_
                  refine x_goto (tgt := 184) C dX12_findPaths_179 (by decide) ?_
                  refine x_iload C dX12_findPaths_184 rfl ?_
                  refine x_bipush C dX12_findPaths_186 (by decide) ?_
                  refine x_icmp_ne (tgt := 195) C dX12_findPaths_188 (by decide) ⟨by omega, by omega⟩ ⟨by omega, by omega⟩ (fun h116 => ?_) (fun h116 => ?_)
                  · refine x_iconst C dX12_findPaths_195 ?_
                    refine x_callV (As := [.int (iI (v45)), .int (iI (0))]) C (by exact (qf_pathsBy (sg := v45) (my := 0) (J := 12 * (i - 1)) (by omega) (by omega) (by omega) (by omega) (by omega) (by omega) hH FR.rf hcn hw hh)) ckX12_421 im_X12_pathsBy se_X12_pathsBy (nlt rfl) rfl rfl rfl rfl (nle rfl) (by exact ⟨nle rfl, nle rfl⟩) dX12_findPaths_196 ?_
                    rintro _ Yy117 ⟨rfl, hHy117, hGy117, hNy117⟩
                    have hFy117 : FR (cMd k_M_100) X0 Yy117 := FR.tr hF hGy117 (by decide)
                    have hwy117 : 2 ≤ Yy117.1 0 22 ∧ Yy117.1 0 22 ≤ 6 := by rw [(hFy117 0 22 rfl).1]; exact hw0
                    have hhy117 : 2 ≤ Yy117.1 0 23 ∧ Yy117.1 0 23 ≤ 6 := by rw [(hFy117 0 23 rfl).1]; exact hh0
                    refine Wx_st (st' := []) rfl ?_
                    refine x_iload C dX12_findPaths_199 rfl ?_
                    refine x_bipush C dX12_findPaths_201 (by decide) ?_
                    refine x_icmp_ne (tgt := 213) C dX12_findPaths_203 (by decide) ⟨by omega, by omega⟩ ⟨by omega, by omega⟩ (fun h118 => ?_) (fun h118 => ?_)
                    · refine x_goto (tgt := 82) C dX12_findPaths_213 (by decide) ?_
                      refine Wx_pick [3, 0] ?_
                      refine Wx_lv (lv' := [(3, .int (iI (v106))), (0, .ref 0)]) rfl ?_
                      exact ih _ _ (by omega) (by omega) (by omega) hHy117 hFy117 (hNy117.mono (by omega))
                    · refine x_aload_n (i := 0) C dX12_findPaths_206 rfl rfl ?_
                      refine x_iload C dX12_findPaths_207 rfl ?_
                      refine x_iconst C dX12_findPaths_209 ?_
                      refine x_callV (As := [.int (iI (v45)), .int (iI (0))]) C (by exact (qf_pathsBy (sg := v45) (my := 0) (J := 12 * (i - 1) + 6) (by omega) (by omega) (by omega) (by omega) (by omega) (by omega) hHy117 FR.rf hNy117 hwy117 hhy117)) ckX12_421 im_X12_pathsBy se_X12_pathsBy (nlt rfl) rfl rfl rfl rfl (nle rfl) (by exact ⟨nle rfl, nle rfl⟩) dX12_findPaths_210 ?_
                      rintro _ Yy119 ⟨rfl, hHy119, hGy119, hNy119⟩
                      have hFy119 : FR (cMd k_M_100) X0 Yy119 := FR.tr hFy117 hGy119 (by decide)
                      have hwy119 : 2 ≤ Yy119.1 0 22 ∧ Yy119.1 0 22 ≤ 6 := by rw [(hFy119 0 22 rfl).1]; exact hw0
                      have hhy119 : 2 ≤ Yy119.1 0 23 ∧ Yy119.1 0 23 ≤ 6 := by rw [(hFy119 0 23 rfl).1]; exact hh0
                      refine Wx_st (st' := []) rfl ?_
                      refine x_goto (tgt := 82) C dX12_findPaths_213 (by decide) ?_
                      refine Wx_pick [3, 0] ?_
                      refine Wx_lv (lv' := [(3, .int (iI (v106))), (0, .ref 0)]) rfl ?_
                      exact ih _ _ (by omega) (by omega) (by omega) hHy119 hFy119 (hNy119.mono (by omega))
                  · refine x_iconst C dX12_findPaths_191 ?_
                    refine x_goto (tgt := 196) C dX12_findPaths_192 (by decide) ?_
                    refine x_callV (As := [.int (iI (v45)), .int (iI (1))]) C (by exact (qf_pathsBy (sg := v45) (my := 1) (J := 12 * (i - 1)) (by omega) (by omega) (by omega) (by omega) (by omega) (by omega) hH FR.rf hcn hw hh)) ckX12_421 im_X12_pathsBy se_X12_pathsBy (nlt rfl) rfl rfl rfl rfl (nle rfl) (by exact ⟨nle rfl, nle rfl⟩) dX12_findPaths_196 ?_
                    rintro _ Yy120 ⟨rfl, hHy120, hGy120, hNy120⟩
                    have hFy120 : FR (cMd k_M_100) X0 Yy120 := FR.tr hF hGy120 (by decide)
                    have hwy120 : 2 ≤ Yy120.1 0 22 ∧ Yy120.1 0 22 ≤ 6 := by rw [(hFy120 0 22 rfl).1]; exact hw0
                    have hhy120 : 2 ≤ Yy120.1 0 23 ∧ Yy120.1 0 23 ≤ 6 := by rw [(hFy120 0 23 rfl).1]; exact hh0
                    refine Wx_st (st' := []) rfl ?_
                    refine x_iload C dX12_findPaths_199 rfl ?_
                    refine x_bipush C dX12_findPaths_201 (by decide) ?_
                    refine x_icmp_ne (tgt := 213) C dX12_findPaths_203 (by decide) ⟨by omega, by omega⟩ ⟨by omega, by omega⟩ (fun h121 => ?_) (fun h121 => ?_)
                    · refine x_goto (tgt := 82) C dX12_findPaths_213 (by decide) ?_
                      refine Wx_pick [3, 0] ?_
                      refine Wx_lv (lv' := [(3, .int (iI (v106))), (0, .ref 0)]) rfl ?_
                      exact ih _ _ (by omega) (by omega) (by omega) hHy120 hFy120 (hNy120.mono (by omega))
                    · refine x_aload_n (i := 0) C dX12_findPaths_206 rfl rfl ?_
                      refine x_iload C dX12_findPaths_207 rfl ?_
                      refine x_iconst C dX12_findPaths_209 ?_
                      refine x_callV (As := [.int (iI (v45)), .int (iI (0))]) C (by exact (qf_pathsBy (sg := v45) (my := 0) (J := 12 * (i - 1) + 6) (by omega) (by omega) (by omega) (by omega) (by omega) (by omega) hHy120 FR.rf hNy120 hwy120 hhy120)) ckX12_421 im_X12_pathsBy se_X12_pathsBy (nlt rfl) rfl rfl rfl rfl (nle rfl) (by exact ⟨nle rfl, nle rfl⟩) dX12_findPaths_210 ?_
                      rintro _ Yy122 ⟨rfl, hHy122, hGy122, hNy122⟩
                      have hFy122 : FR (cMd k_M_100) X0 Yy122 := FR.tr hFy120 hGy122 (by decide)
                      have hwy122 : 2 ≤ Yy122.1 0 22 ∧ Yy122.1 0 22 ≤ 6 := by rw [(hFy122 0 22 rfl).1]; exact hw0
                      have hhy122 : 2 ≤ Yy122.1 0 23 ∧ Yy122.1 0 23 ≤ 6 := by rw [(hFy122 0 23 rfl).1]; exact hh0
                      refine Wx_st (st' := []) rfl ?_
                      refine x_goto (tgt := 82) C dX12_findPaths_213 (by decide) ?_
                      refine Wx_pick [3, 0] ?_
                      refine Wx_lv (lv' := [(3, .int (iI (v106))), (0, .ref 0)]) rfl ?_
                      exact ih _ _ (by omega) (by omega) (by omega) hHy122 hFy122 (hNy122.mono (by omega))
            · refine x_goto (tgt := 82) C dX12_findPaths_149 (by decide) ?_
              refine Wx_pick [3, 0] ?_
              refine Wx_lv (lv' := [(3, .int (iI (i + 1))), (0, .ref 0)]) rfl ?_
              exact ih _ _ (by omega) (by omega) (by omega) hH hF (hcn.mono (by omega))
set_option maxHeartbeats 4000000 in
set_option maxRecDepth 100000 in
theorem lf_fp2 {D : va_G} {ad : Nat → Nat} {cA : Nat → ClassId} {X0 : XT} {j : Int} (j0 : 0 ≤ j) (j1 : j ≤ 5) (hw0 : 2 ≤ X0.1 0 22 ∧ X0.1 0 22 ≤ 6) (hh0 : 2 ≤ X0.1 0 23 ∧ X0.1 0 23 ≤ 6) {E : ET} (C : CX E (wM D ad cA) cX12_findPaths 6 RX12 none { frames := 6, cells := 0, slots := 0, locals := 154 }) (hQ : EQ E (wM D ad cA) (fun r X1 => r = none ∧ HG vM X1 ∧ FR (cMd k_M_100) X0 X1)) : ∀ (n : Nat) (i : Int) (X : XT), 36 - i < n → 0 ≤ i → i ≤ 36 → HG vM X → FR (cMd k_M_100) X0 X → (∀ k : Nat, k < 180 → X.1 26 k = 0) → Wx E (wM D ad cA) 6 (PX (wM D ad cA) X) 29 [(2, .int (iI (i))), (0, .ref 0), (1, .int (iI (j)))] [] := by
  intro n
  induction n with
  | zero => intro i X hn i0 i1 hH hF hz; exfalso; omega
  | succ n ih =>
    intro i X hn i0 i1 hH hF hz
    refine x_iload_n (i := 2) C dX12_findPaths_29 rfl rfl ?_
    refine x_bipush C dX12_findPaths_30 (by decide) ?_
    refine x_icmp_ge (tgt := 48) C dX12_findPaths_32 (by decide) ⟨by omega, by omega⟩ ⟨by omega, by omega⟩ (fun h1 => ?_) (fun h1 => ?_)
    · refine x_sipush C dX12_findPaths_48 (by decide) ?_
      refine x_aload_n (i := 0) C dX12_findPaths_51 rfl rfl ?_
      refine x_getRs (r := 12) C fkM_X12_44 (nlt rfl) rfl (HG.rR hH (k := 0) (i := 29) rfl rfl) dX12_findPaths_52 ?_
      refine x_iload_n (i := 1) C dX12_findPaths_55 rfl rfl ?_
      refine x_iald C (nlt rfl) rfl rfl (nle rfl) (by omega) (by omega) dX12_findPaths_56 ?_
      refine x_gen (fun v2 ev2 => ?_)
      have qv2 : ((-1) : Int) ≤ v2 ∧ v2 ≤ (35 : Int) := by
        rw [ev2]
        exact hH.rA (k := 12) (n := 7) (p := ((-1), 35)) (nlt rfl) rfl (by decide +kernel) (by omega)
      refine x_iadd C dX12_findPaths_57 ?_
      refine x_gen (fun v3 ev3 => ?_)
      refine x_istore_n (i := 2) (lv' := [(2, .int (iI (v3))), (0, .ref 0), (1, .int (iI (j)))]) C dX12_findPaths_58 rfl (nlt rfl) rfl ?_
      refine x_aload_n (i := 0) C dX12_findPaths_59 rfl rfl ?_
      refine x_getRs (r := 26) C fkM_X12_87 (nlt rfl) rfl (HG.rR hH (k := 0) (i := 47) rfl rfl) dX12_findPaths_60 ?_
      refine x_iload_n (i := 2) C dX12_findPaths_63 rfl rfl ?_
      refine x_iconst C dX12_findPaths_64 ?_
      refine x_iast C (nlt rfl) rfl rfl (nle rfl) (by omega) (by omega) dX12_findPaths_65 ?_
      refine x_gX (fun Yy4 eYy4 => ?_)
      have hHy4 : HG vM Yy4 := by
        rw [eYy4]
        exact hg_wA hH (n := 180) (p := ((-2147483648), 2147483647)) (by decide +kernel) (by omega) ⟨by omega, by omega⟩
      have hFy4 : FR (cMd k_M_100) X0 Yy4 := by
        rw [eYy4]
        exact FR.upI hF (rfl)
      refine x_aload_n (i := 0) C dX12_findPaths_66 rfl rfl ?_
      refine x_getRs (r := 29) C fkM_X12_96 (nlt rfl) rfl (HG.rR hHy4 (k := 0) (i := 50) rfl rfl) dX12_findPaths_67 ?_
      refine x_iload_n (i := 2) C dX12_findPaths_70 rfl rfl ?_
      refine x_iconst C dX12_findPaths_71 ?_
      refine x_iast C (nlt rfl) rfl rfl (nle rfl) (by omega) (by omega) dX12_findPaths_72 ?_
      refine x_gX (fun Yy5 eYy5 => ?_)
      have hHy5 : HG vM Yy5 := by
        rw [eYy5]
        exact hg_wA hHy4 (n := 180) (p := (0, 1000)) (by decide +kernel) (by omega) ⟨by omega, by omega⟩
      have hFy5 : FR (cMd k_M_100) X0 Yy5 := by
        rw [eYy5]
        exact FR.upI hFy4 (rfl)
      refine x_aload_n (i := 0) C dX12_findPaths_73 rfl rfl ?_
      refine x_getRs (r := 32) C fkM_X12_105 (nlt rfl) rfl (HG.rR hHy5 (k := 0) (i := 53) rfl rfl) dX12_findPaths_74 ?_
      refine x_iload_n (i := 2) C dX12_findPaths_77 rfl rfl ?_
      refine x_lconst C dX12_findPaths_78 ?_
      refine x_eqL (b := 0) rfl ?_
      refine x_last C (nlt rfl) rfl rfl (nle rfl) (by omega) (by omega) dX12_findPaths_79 ?_
      refine x_gX (fun Yy6 eYy6 => ?_)
      have hHy6 : HG vM Yy6 := by
        rw [eYy6]
        exact hg_wLA hHy5 (n := 180) (p := ((-9223372036854775808), 9223372036854775807)) (by decide +kernel) (by omega) (l64 _)
      have hFy6 : FR (cMd k_M_100) X0 Yy6 := by
        rw [eYy6]
        exact FR.upL hFy5 (rfl)
      refine x_iconst C dX12_findPaths_80 ?_
      refine x_istore_n (i := 3) (lv' := [(3, .int (iI (1))), (2, .int (iI (v3))), (0, .ref 0), (1, .int (iI (j)))]) C dX12_findPaths_81 rfl (nlt rfl) rfl ?_
      refine Wx_pick [3, 0] ?_
      refine Wx_lv (lv' := [(3, .int (iI (1))), (0, .ref 0)]) rfl ?_
      refine lf_fp3 j0 j1 hw0 hh0 C hQ 10 1 _ (by omega) (by omega) (by omega) hHy6 hFy6 (fun k hk hn => ?_)
      by_cases ej : k = (v3).toNat
      · subst ej
        rw [eYy6, upL_1, eYy5, upI_at]
        omega
      · rw [eYy6, upL_1, eYy5, upI_nc (by decide), eYy4, upI_ne ej] at hn
        exact absurd (hz k hk) hn
    · refine x_aload_n (i := 0) C dX12_findPaths_35 rfl rfl ?_
      refine x_getRs (r := 35) C fkM_X12_114 (nlt rfl) rfl (HG.rR hH (k := 0) (i := 56) rfl rfl) dX12_findPaths_36 ?_
      refine x_iload_n (i := 2) C dX12_findPaths_39 rfl rfl ?_
      refine x_iconst C dX12_findPaths_40 ?_
      refine x_iast C (nlt rfl) rfl rfl (nle rfl) (by omega) (by omega) dX12_findPaths_41 ?_
      refine x_gX (fun Yy7 eYy7 => ?_)
      have hHy7 : HG vM Yy7 := by
        rw [eYy7]
        exact hg_wA hH (n := 36) (p := ((-2147483648), 2147483647)) (by decide +kernel) (by omega) ⟨by omega, by omega⟩
      have hFy7 : FR (cMd k_M_100) X0 Yy7 := by
        rw [eYy7]
        exact FR.upI hF (rfl)
      refine x_iinc (lv' := [(2, .int (iI (i + 1))), (0, .ref 0), (1, .int (iI (j)))]) C dX12_findPaths_42 rfl (nlt rfl) rfl ?_
      refine x_goto (tgt := 29) C dX12_findPaths_45 (by decide) ?_
      refine Wx_pick [2, 0, 1] ?_
      refine Wx_lv (lv' := [(2, .int (iI (i + 1))), (0, .ref 0), (1, .int (iI (j)))]) rfl ?_
      refine ih _ _ (by omega) (by omega) (by omega) hHy7 hFy7 (fun k hk => ?_)
      rw [eYy7, upI_nc (by decide)]
      exact hz k hk
set_option maxHeartbeats 4000000 in
set_option maxRecDepth 100000 in
theorem lf_fp1 {D : va_G} {ad : Nat → Nat} {cA : Nat → ClassId} {X0 : XT} {j : Int} (j0 : 0 ≤ j) (j1 : j ≤ 5) (hw0 : 2 ≤ X0.1 0 22 ∧ X0.1 0 22 ≤ 6) (hh0 : 2 ≤ X0.1 0 23 ∧ X0.1 0 23 ≤ 6) {E : ET} (C : CX E (wM D ad cA) cX12_findPaths 6 RX12 none { frames := 6, cells := 0, slots := 0, locals := 154 }) (hQ : EQ E (wM D ad cA) (fun r X1 => r = none ∧ HG vM X1 ∧ FR (cMd k_M_100) X0 X1)) : ∀ (n : Nat) (i : Int) (X : XT), 180 - i < n → 0 ≤ i → i ≤ 180 → HG vM X → FR (cMd k_M_100) X0 X → (∀ k : Nat, (k : Int) < i → X.1 26 k = 0) → Wx E (wM D ad cA) 6 (PX (wM D ad cA) X) 7 [(2, .int (iI (i))), (0, .ref 0), (1, .int (iI (j)))] [] := by
  intro n
  induction n with
  | zero => intro i X hn i0 i1 hH hF hz; exfalso; omega
  | succ n ih =>
    intro i X hn i0 i1 hH hF hz
    refine x_iload_n (i := 2) C dX12_findPaths_7 rfl rfl ?_
    refine x_sipush C dX12_findPaths_8 (by decide) ?_
    refine x_icmp_ge (tgt := 27) C dX12_findPaths_11 (by decide) ⟨by omega, by omega⟩ ⟨by omega, by omega⟩ (fun h1 => ?_) (fun h1 => ?_)
    · refine x_iconst C dX12_findPaths_27 ?_
      refine x_istore_n (i := 2) (lv' := [(2, .int (iI (0))), (0, .ref 0), (1, .int (iI (j)))]) C dX12_findPaths_28 rfl (nlt rfl) rfl ?_
      refine Wx_pick [2, 0, 1] ?_
      refine Wx_lv (lv' := [(2, .int (iI (0))), (0, .ref 0), (1, .int (iI (j)))]) rfl ?_
      exact lf_fp2 j0 j1 hw0 hh0 C hQ 37 0 X (by omega) (by omega) (by omega) hH hF (fun k hk => hz k (by omega))
    · refine x_aload_n (i := 0) C dX12_findPaths_14 rfl rfl ?_
      refine x_getRs (r := 26) C fkM_X12_87 (nlt rfl) rfl (HG.rR hH (k := 0) (i := 47) rfl rfl) dX12_findPaths_15 ?_
      refine x_iload_n (i := 2) C dX12_findPaths_18 rfl rfl ?_
      refine x_iconst C dX12_findPaths_19 ?_
      refine x_iast C (nlt rfl) rfl rfl (nle rfl) (by omega) (by omega) dX12_findPaths_20 ?_
      refine x_gX (fun Yy2 eYy2 => ?_)
      have hHy2 : HG vM Yy2 := by
        rw [eYy2]
        exact hg_wA hH (n := 180) (p := ((-2147483648), 2147483647)) (by decide +kernel) (by omega) ⟨by omega, by omega⟩
      have hFy2 : FR (cMd k_M_100) X0 Yy2 := by
        rw [eYy2]
        exact FR.upI hF (rfl)
      refine x_iinc (lv' := [(2, .int (iI (i + 1))), (0, .ref 0), (1, .int (iI (j)))]) C dX12_findPaths_21 rfl (nlt rfl) rfl ?_
      refine x_goto (tgt := 7) C dX12_findPaths_24 (by decide) ?_
      refine Wx_pick [2, 0, 1] ?_
      refine Wx_lv (lv' := [(2, .int (iI (i + 1))), (0, .ref 0), (1, .int (iI (j)))]) rfl ?_
      refine ih _ _ (by omega) (by omega) (by omega) hHy2 hFy2 (fun k hk => ?_)
      by_cases ej : k = i.toNat
      · subst ej
        rw [eYy2, upI_at]
      · rw [eYy2, upI_ne ej]
        exact hz k (by omega)
set_option maxHeartbeats 4000000 in
set_option maxRecDepth 100000 in
theorem qf_findPaths {D : va_G} {ad : Nat → Nat} {cA : Nat → ClassId} {X0 : XT} {j : Int} (j0 : 0 ≤ j) (j1 : j ≤ 5) (hH : HG vM X0) (hF : FR (cMd k_M_100) X0 X0) (hw0 : 2 ≤ X0.1 0 22 ∧ X0.1 0 22 ≤ 6) (hh0 : 2 ≤ X0.1 0 23 ∧ X0.1 0 23 ≤ 6) : MetX (wM D ad cA) yX12_findPaths cX12_findPaths 6 none 6 154 [.ref 0, .int (iI (j))] X0 (fun r X1 => r = none ∧ HG vM X1 ∧ FR (cMd k_M_100) X0 X1) := by
  refine MetX.mk (own := RX12) (by decide +kernel) rfl (nle rfl) (fun E C hQ => ?_)
  refine Wx_lv (lv' := [(0, .ref 0), (1, .int (iI (j)))]) rfl ?_
  refine x_aload_n (i := 0) C dX12_findPaths_0 rfl rfl ?_
  refine x_iload_n (i := 1) C dX12_findPaths_1 rfl rfl ?_
  refine x_callV (As := [.int (iI (j))]) C (by exact (qs_look (j := j) (by omega) (by omega) hH FR.rf)) ckX12_373 im_X12_look se_X12_look (nlt rfl) rfl rfl rfl rfl (nle rfl) (by exact ⟨nle rfl, nle rfl⟩) dX12_findPaths_2 ?_
  rintro _ Yy1 ⟨rfl, hHy1, hGy1⟩
  have hFy1 : FR (cMd k_M_100) X0 Yy1 := FR.tr hF hGy1 (by decide)
  refine Wx_st (st' := []) rfl ?_
  refine x_iconst C dX12_findPaths_5 ?_
  refine x_istore_n (i := 2) (lv' := [(2, .int (iI (0))), (0, .ref 0), (1, .int (iI (j)))]) C dX12_findPaths_6 rfl (nlt rfl) rfl ?_
  refine Wx_pick [2, 0, 1] ?_
  refine Wx_lv (lv' := [(2, .int (iI (0))), (0, .ref 0), (1, .int (iI (j)))]) rfl ?_
  exact lf_fp1 j0 j1 hw0 hh0 C hQ 181 0 _ (by omega) (by omega) (by omega) hHy1 hFy1 (fun k hk => by omega)
set_option maxRecDepth 10000 in
theorem t_M_100 {D : va_G} {ad : Nat → Nat} {cA : Nat → ClassId} : CTR mtM vM gM (wM D ad cA) k_M_100 := by
  intro g X hpre
  obtain ⟨h00, hei, hel, hdl, hH, hE⟩ := hpre
  have h0 : (0 : Int) ≤ g.1 0 ∧ g.1 0 ≤ (0 : Int) := hei 0 _ rfl
  have h1 : (0 : Int) ≤ g.1 1 ∧ g.1 1 ≤ (5 : Int) := hei 1 _ rfl
  have h2 : (2 : Int) ≤ g.1 2 ∧ g.1 2 ≤ (6 : Int) := hei 2 _ rfl
  have h3 : (2 : Int) ≤ g.1 3 ∧ g.1 3 ≤ (6 : Int) := hei 3 _ rfl
  have e0 : X.1 0 22 = g.1 2 + 0 := (hdl ((0, 22), (0, 2, 0)) (.head _))
  have e1 : X.1 0 23 = g.1 3 + 0 := (hdl ((0, 23), (0, 3, 0)) (.tail _ (.head _)))
  refine MetX.imp (fun r X1 hp => ?_) (qf_findPaths (X0 := X) (j := g.1 1 + 0) (by omega) (by omega) hH FR.rf ⟨by omega, by omega⟩ ⟨by omega, by omega⟩)
  obtain ⟨rfl, hH1, hF1⟩ := hp
  exact (altM_mk 0 [] rfl (ei_cons ⟨by show (0 : Int) ≤ g.1 0; omega, by show g.1 0 ≤ (0 : Int); omega⟩ (ei_cons ⟨by show (0 : Int) ≤ g.1 1; omega, by show g.1 1 ≤ (5 : Int); omega⟩ (ei_cons ⟨by show (2 : Int) ≤ g.1 2; omega, by show g.1 2 ≤ (6 : Int); omega⟩ (ei_cons ⟨by show (2 : Int) ≤ g.1 3; omega, by show g.1 3 ≤ (6 : Int); omega⟩ ei_nil)))) el_nil (by rfl) dl_nil gd_nil hH1 (bok_fr hE hF1 rfl) hF1)
set_option maxHeartbeats 4000000 in
set_option maxRecDepth 100000 in
theorem lf_ones {D : va_G} {ad : Nat → Nat} {cA : Nat → ClassId} {X : XT} {z : Int64} {E : ET} (C : CX E (wM D ad cA) cX12_ones 4 RX12 (some .int) { frames := 1, cells := 0, slots := 0, locals := 22 }) (hQ : EQ E (wM D ad cA) (fun r X' => X' = X ∧ ∃ u : Int, r = some (.int (iI u)) ∧ u = pcN z 36)) : ∀ (n : Nat) (a : Int) (i : Int), 36 - i < n → 0 ≤ i → i ≤ 36 → a = pcN z i.toNat → Wx E (wM D ad cA) 4 (PX (wM D ad cA) X) 4 [(3, .int (iI (i))), (2, .int (iI (a))), (0, .long (z))] [] := by
  intro n
  induction n with
  | zero => intro a i hn i0 i1 ha; exfalso; omega
  | succ n ih =>
    intro a i hn i0 i1 ha
    have pb := pcN_bd z i.toNat
    refine x_iload_n (i := 3) C dX12_ones_4 rfl rfl ?_
    refine x_bipush C dX12_ones_5 (by decide) ?_
    refine x_icmp_ge (tgt := 32) C dX12_ones_7 (by decide) ⟨by omega, by omega⟩ ⟨by omega, by omega⟩ (fun h1 => ?_) (fun h1 => ?_)
    · refine x_iload_n (i := 2) C dX12_ones_32 rfl rfl ?_
      exact x_iret C hQ dX12_ones_33 (⟨rfl, _, rfl, by rw [ha, show i = 36 by omega]; rfl⟩)
    · refine x_iload_n (i := 2) C dX12_ones_10 rfl rfl ?_
      refine x_lload_n (i := 0) C dX12_ones_11 rfl rfl ?_
      refine x_iload_n (i := 3) C dX12_ones_12 rfl rfl ?_
      refine x_callS (As := [.long (z), .int (iI (i))]) C (by exact (qf_has (z := z) (i := i))) ckX12_299 sm_X12_has rfl rfl (nle rfl) (by exact ⟨nle rfl, nle rfl⟩) dX12_ones_13 ?_
      rintro _ Xv2 ⟨hxv2, v2, rfl, ev2⟩
      rw [hxv2]
      have bv2 : 0 ≤ v2 ∧ v2 ≤ 1 := by rw [ev2]; exact zB_01 _
      refine Wx_st (st' := [.int (iI (v2)), .int (iI (a))]) rfl ?_
      refine x_if_eq (tgt := 23) C dX12_ones_16 (by decide) ⟨by omega, by omega⟩ (fun h3 => ?_) (fun h3 => ?_)
      · refine x_iconst C dX12_ones_23 ?_
        refine x_iadd C dX12_ones_24 ?_
        refine x_gen (fun v4 ev4 => ?_)
        refine x_istore_n (i := 2) (lv' := [(2, .int (iI (v4))), (3, .int (iI (i))), (0, .long (z))]) C dX12_ones_25 rfl (nlt rfl) rfl ?_
        refine x_iinc (lv' := [(3, .int (iI (i + 1))), (2, .int (iI (v4))), (0, .long (z))]) C dX12_ones_26 rfl (nlt rfl) rfl ?_
        refine x_goto (tgt := 4) C dX12_ones_29 (by decide) ?_
        have pb := pcN_bd z i.toNat
        exact ih _ _ (by omega) (by omega) (by omega) (by have t := pcN_S (z := z) (i := i) (by omega) (by omega); omega)
      · refine x_iconst C dX12_ones_19 ?_
        refine x_goto (tgt := 24) C dX12_ones_20 (by decide) ?_
        refine x_iadd C dX12_ones_24 ?_
        refine x_gen (fun v5 ev5 => ?_)
        refine x_istore_n (i := 2) (lv' := [(2, .int (iI (v5))), (3, .int (iI (i))), (0, .long (z))]) C dX12_ones_25 rfl (nlt rfl) rfl ?_
        refine x_iinc (lv' := [(3, .int (iI (i + 1))), (2, .int (iI (v5))), (0, .long (z))]) C dX12_ones_26 rfl (nlt rfl) rfl ?_
        refine x_goto (tgt := 4) C dX12_ones_29 (by decide) ?_
        have pb := pcN_bd z i.toNat
        exact ih _ _ (by omega) (by omega) (by omega) (by have t := pcN_S (z := z) (i := i) (by omega) (by omega); omega)
set_option maxHeartbeats 4000000 in
set_option maxRecDepth 100000 in
theorem qf_ones {D : va_G} {ad : Nat → Nat} {cA : Nat → ClassId} {X : XT} {z : Int64} : MetX (wM D ad cA) yX12_ones cX12_ones 4 (some .int) 1 22 [.long (z)] X (fun r X' => X' = X ∧ ∃ u : Int, r = some (.int (iI u)) ∧ u = pcN z 36) := by
  refine MetX.mk (own := RX12) (by decide +kernel) rfl (nle rfl) (fun E C hQ => ?_)
  refine Wx_lv (lv' := [(0, .long (z))]) rfl ?_
  refine x_iconst C dX12_ones_0 ?_
  refine x_istore_n (i := 2) (lv' := [(2, .int (iI (0))), (0, .long (z))]) C dX12_ones_1 rfl (nlt rfl) rfl ?_
  refine x_iconst C dX12_ones_2 ?_
  refine x_istore_n (i := 3) (lv' := [(3, .int (iI (0))), (2, .int (iI (0))), (0, .long (z))]) C dX12_ones_3 rfl (nlt rfl) rfl ?_
  exact lf_ones C hQ 700 0 0 (by omega) (by omega) (by omega) rfl
set_option maxRecDepth 10000 in
theorem t_M_215 {D : va_G} {ad : Nat → Nat} {cA : Nat → ClassId} : CTR mtM vM gM (wM D ad cA) k_M_215 := by
  intro g X hpre
  obtain ⟨h00, hei, hel, hdl, hH, hE⟩ := hpre
  have h0 : (0 : Int) ≤ g.1 0 ∧ g.1 0 ≤ (0 : Int) := hei 0 _ rfl
  have hz := hel 0 _ rfl
  have hb := pcN_bd (g.2 0) 36
  have hp1 := pcN_pos (z := g.2 0) ⟨by have := hz.1; have : (1 : Int) ≤ (g.2 0).toInt := this; omega, hz.2⟩ (fun e => by have h1 : (1 : Int) ≤ (g.2 0).toInt := hz.1; rw [e] at h1; exact absurd h1 (by decide))
  refine MetX.imp (fun r X1 hp => ?_) (qf_ones (X := X) (z := g.2 0))
  obtain ⟨rfl, u, rfl, hu⟩ := hp
  exact (altM_mk 0 [u] rfl (ei_cons ⟨by show (0 : Int) ≤ g.1 0; omega, by show g.1 0 ≤ (0 : Int); omega⟩ (ei_cons ⟨by show (1 : Int) ≤ u; omega, by show u ≤ (36 : Int); omega⟩ ei_nil)) (el_cons (hel 0 _ rfl) el_nil) (res_v rfl) dl_nil gd_nil hH hE FR.rf)
abbrev mdIN : List (Nat × Option Nat) := [(40, none), (41, none)]
set_option maxHeartbeats 4000000 in
set_option maxRecDepth 100000 in
theorem lf_isNew {D : va_G} {ad : Nat → Nat} {cA : Nat → ClassId} {X : XT} {f : Int} {l : Int64} (f0 : 0 ≤ f) (f1 : f ≤ 16383) (hz : X.1 41 f.toNat = 0) (hH : HG vM X) (hF : FR mdIN X X) {E : ET} {rm : Room} (C : CX E (wM D ad cA) cX12_isNew 4 RX12 (some .boolean) rm) (hQ : EQ E (wM D ad cA) (fun r X1 => ∃ u : Int, r = some (.int (iI u)) ∧ 0 ≤ u ∧ u ≤ 1 ∧ HG vM X1 ∧ FR mdIN X X1 ∧ knA X1 ≤ knA X + 1)) : ∀ (n : Nat) (a : Int), (f - a) % 16384 < n → 0 ≤ a → a ≤ 16383 → Wx E (wM D ad cA) 4 (PX (wM D ad cA) X) 10 [(3, .int (iI (a))), (0, .ref 0), (1, .long (l))] [] := by
  intro n
  induction n with
  | zero => intro a hn a0 a1; exfalso; omega
  | succ n ih =>
    intro a hn a0 a1
    refine x_aload_n (i := 0) C dX12_isNew_10 rfl rfl ?_
    refine x_getRs (r := 41) C fkM_X12_133 (nlt rfl) rfl (HG.rR hH (k := 0) (i := 64) rfl rfl) dX12_isNew_11 ?_
    refine x_iload_n (i := 3) C dX12_isNew_14 rfl rfl ?_
    refine x_zald C (nlt rfl) rfl rfl (nle rfl) (by omega) (by omega) dX12_isNew_15 ?_
    refine x_gen (fun v1 ev1 => ?_)
    have qv1 : (0 : Int) ≤ v1 ∧ v1 ≤ (1 : Int) := by
      rw [ev1]
      exact hH.rA (k := 41) (n := 16384) (p := (0, 1)) (nlt rfl) rfl (by decide +kernel) (by omega)
    refine x_if_eq (tgt := 43) C dX12_isNew_16 (by decide) ⟨by omega, by omega⟩ (fun h2 => ?_) (fun h2 => ?_)
    · refine x_aload_n (i := 0) C dX12_isNew_43 rfl rfl ?_
      refine x_getRs (r := 41) C fkM_X12_133 (nlt rfl) rfl (HG.rR hH (k := 0) (i := 64) rfl rfl) dX12_isNew_44 ?_
      refine x_iload_n (i := 3) C dX12_isNew_47 rfl rfl ?_
      refine x_iconst C dX12_isNew_48 ?_
      refine x_zast C (nlt rfl) rfl rfl (nle rfl) (by omega) (by omega) (by omega) dX12_isNew_49 ?_
      refine x_gX (fun Yy3 eYy3 => ?_)
      have hHy3 : HG vM Yy3 := by
        rw [eYy3]
        exact hg_wA hH (n := 16384) (p := (0, 1)) (by decide +kernel) (by omega) ⟨by omega, by omega⟩
      have hFy3 : FR mdIN X Yy3 := by
        rw [eYy3]
        exact FR.upI hF (rfl)
      refine x_aload_n (i := 0) C dX12_isNew_50 rfl rfl ?_
      refine x_getRs (r := 40) C fkM_X12_130 (nlt rfl) rfl (HG.rR hHy3 (k := 0) (i := 63) rfl rfl) dX12_isNew_51 ?_
      refine x_iload_n (i := 3) C dX12_isNew_54 rfl rfl ?_
      refine x_lload_n (i := 1) C dX12_isNew_55 rfl rfl ?_
      refine x_last C (nlt rfl) rfl rfl (nle rfl) (by omega) (by omega) dX12_isNew_56 ?_
      refine x_gX (fun Yy4 eYy4 => ?_)
      have hHy4 : HG vM Yy4 := by
        rw [eYy4]
        exact hg_wLA hHy3 (n := 16384) (p := ((-9223372036854775808), 9223372036854775807)) (by decide +kernel) (by omega) (l64 _)
      have hFy4 : FR mdIN X Yy4 := by
        rw [eYy4]
        exact FR.upL hFy3 (rfl)
      refine x_iconst C dX12_isNew_57 ?_
      exact x_zret C hQ (by omega) dX12_isNew_58 (⟨_, rfl, by omega, by omega, hHy4, hFy4, knA_up (a := a.toNat) (fun k hk => by rw [eYy4, upL_1, eYy3, upI_ne hk])⟩)
    · refine x_aload_n (i := 0) C dX12_isNew_19 rfl rfl ?_
      refine x_getRs (r := 40) C fkM_X12_130 (nlt rfl) rfl (HG.rR hH (k := 0) (i := 63) rfl rfl) dX12_isNew_20 ?_
      refine x_iload_n (i := 3) C dX12_isNew_23 rfl rfl ?_
      refine x_lald C (nlt rfl) rfl rfl (nle rfl) (by omega) (by omega) dX12_isNew_24 ?_
      refine x_genL (fun l5 el5 => ?_)
      refine x_lload_n (i := 1) C dX12_isNew_25 rfl rfl ?_
      refine x_lcmp C dX12_isNew_26 ?_
      refine x_topi (fun v6 rv6 ev6 => ?_)
      have cv6 := lcmp_iff rv6 ev6
      unfold inR at rv6
      refine x_if_ne (tgt := 32) C dX12_isNew_27 (by decide) ⟨by omega, by omega⟩ (fun h7 => ?_) (fun h7 => ?_)
      · refine x_iload_n (i := 3) C dX12_isNew_32 rfl rfl ?_
        refine x_iconst C dX12_isNew_33 ?_
        refine x_iadd C dX12_isNew_34 ?_
        refine x_sipush C dX12_isNew_35 (by decide) ?_
        refine x_irem C dX12_isNew_38 (by omega) (by omega) ⟨by omega, by omega⟩ ⟨by omega, by omega⟩ ?_
        refine x_gen (fun v8 ev8 => ?_)
        refine x_istore_n (i := 3) (lv' := [(3, .int (iI (v8))), (0, .ref 0), (1, .long (l))]) C dX12_isNew_39 rfl (nlt rfl) rfl ?_
        refine x_goto (tgt := 10) C dX12_isNew_40 (by decide) ?_
        have ne : a ≠ f := fun q => by
          have t : X.1 41 a.toNat = 0 := by rw [q]; exact hz
          rw [← ev1] at t
          omega
        refine Wx_pick [3, 0, 1] ?_
        refine Wx_lv (lv' := [(3, .int (iI (v8))), (0, .ref 0), (1, .long (l))]) rfl ?_
        exact ih _ (by omega) (by omega) (by omega)
      · refine x_iconst C dX12_isNew_30 ?_
        exact x_zret C hQ (by omega) dX12_isNew_31 (⟨_, rfl, by omega, by omega, hH, hF, by omega⟩)
set_option maxHeartbeats 4000000 in
set_option maxRecDepth 100000 in
theorem qf_isNew {D : va_G} {ad : Nat → Nat} {cA : Nat → ClassId} {X : XT} {l : Int64} (hH : HG vM X) (hk : knA X < 16384) : MetX (wM D ad cA) yX12_isNew cX12_isNew 4 (some .boolean) 0 0 [.ref 0, .long (l)] X (fun r X1 => ∃ u : Int, r = some (.int (iI u)) ∧ 0 ≤ u ∧ u ≤ 1 ∧ HG vM X1 ∧ FR mdIN X X1 ∧ knA X1 ≤ knA X + 1) := by
  refine MetX.mk (own := RX12) (by decide +kernel) rfl (nle rfl) (fun E C hQ => ?_)
  refine Wx_lv (lv' := [(0, .ref 0), (1, .long (l))]) rfl ?_
  refine x_lload_n (i := 1) C dX12_isNew_0 rfl rfl ?_
  refine x_ldc2 C dX12_isNew_1 cnX12_503 ?_
  refine x_lmul C dX12_isNew_4 ?_
  refine x_genL (fun l1 el1 => ?_)
  refine x_bipush C dX12_isNew_5 (by decide) ?_
  refine x_lushr C dX12_isNew_7 ?_
  refine x_genL (fun l2 el2 => ?_)
  refine x_l2i C dX12_isNew_8 ?_
  refine x_topi (fun v3 rv3 ev3 => ?_)
  unfold inR at rv3
  have bv3 := shr50 (z := v3) ⟨by omega, by omega⟩ (by rw [ev3, el2])
  refine x_istore_n (i := 3) (lv' := [(3, .int (iI (v3))), (0, .ref 0), (1, .long (l))]) C dX12_isNew_9 rfl (nlt rfl) rfl ?_
  refine Wx_pick [3, 0, 1] ?_
  refine Wx_lv (lv' := [(3, .int (iI (v3))), (0, .ref 0), (1, .long (l))]) rfl ?_
  rw [knA_eq] at hk
  obtain ⟨i, hi, hz⟩ := knM_free 16384 hk
  exact lf_isNew (f := (i : Int)) (by omega) (by omega) hz hH FR.rf C hQ (((i : Int) - v3) % 16384 + 1).toNat _ (by omega) (by omega) (by omega)
