/-! ===== the reference: contracts proved by hand ===== -/
theorem dX12_in_0 : decode cX12_in 0 = .ok (.iload_n 0, 1) := by decide +kernel
theorem dX12_in_1 : decode cX12_in 1 = .ok (.iload_n 1, 1) := by decide +kernel
theorem dX12_in_2 : decode cX12_in 2 = .ok (.if_icmp .lt 12, 3) := by decide +kernel
theorem dX12_in_5 : decode cX12_in 5 = .ok (.iload_n 0, 1) := by decide +kernel
theorem dX12_in_6 : decode cX12_in 6 = .ok (.iload_n 2, 1) := by decide +kernel
theorem dX12_in_7 : decode cX12_in 7 = .ok (.if_icmp .gt 7, 3) := by decide +kernel
theorem dX12_in_10 : decode cX12_in 10 = .ok (.iconst 1, 1) := by decide +kernel
theorem dX12_in_11 : decode cX12_in 11 = .ok (.goto 4, 3) := by decide +kernel
theorem dX12_in_14 : decode cX12_in 14 = .ok (.iconst 0, 1) := by decide +kernel
theorem dX12_in_15 : decode cX12_in 15 = .ok (.ireturn, 1) := by decide +kernel
theorem dX12_menOf_0 : decode cX12_menOf 0 = .ok (.iconst 0, 1) := by decide +kernel
theorem dX12_menOf_1 : decode cX12_menOf 1 = .ok (.istore_n 2, 1) := by decide +kernel
theorem dX12_menOf_2 : decode cX12_menOf 2 = .ok (.iconst 0, 1) := by decide +kernel
theorem dX12_menOf_3 : decode cX12_menOf 3 = .ok (.istore_n 3, 1) := by decide +kernel
theorem dX12_menOf_4 : decode cX12_menOf 4 = .ok (.iload_n 3, 1) := by decide +kernel
theorem dX12_menOf_5 : decode cX12_menOf 5 = .ok (.aload_n 0, 1) := by decide +kernel
theorem dX12_menOf_6 : decode cX12_menOf 6 = .ok (.getfield 287, 3) := by decide +kernel
theorem dX12_menOf_9 : decode cX12_menOf 9 = .ok (.if_icmp .ge 37, 3) := by decide +kernel
theorem dX12_menOf_12 : decode cX12_menOf 12 = .ok (.iload_n 2, 1) := by decide +kernel
theorem dX12_menOf_13 : decode cX12_menOf 13 = .ok (.aload_n 0, 1) := by decide +kernel
theorem dX12_menOf_14 : decode cX12_menOf 14 = .ok (.getfield 41, 3) := by decide +kernel
theorem dX12_menOf_17 : decode cX12_menOf 17 = .ok (.iload_n 3, 1) := by decide +kernel
theorem dX12_menOf_18 : decode cX12_menOf 18 = .ok (.iaload, 1) := by decide +kernel
theorem dX12_menOf_19 : decode cX12_menOf 19 = .ok (.iload_n 1, 1) := by decide +kernel
theorem dX12_menOf_20 : decode cX12_menOf 20 = .ok (.if_icmp .ne 17, 3) := by decide +kernel
theorem dX12_menOf_23 : decode cX12_menOf 23 = .ok (.aload_n 0, 1) := by decide +kernel
theorem dX12_menOf_24 : decode cX12_menOf 24 = .ok (.getfield 44, 3) := by decide +kernel
theorem dX12_menOf_27 : decode cX12_menOf 27 = .ok (.iload_n 3, 1) := by decide +kernel
theorem dX12_menOf_28 : decode cX12_menOf 28 = .ok (.iaload, 1) := by decide +kernel
theorem dX12_menOf_29 : decode cX12_menOf 29 = .ok (.iconst (-1), 1) := by decide +kernel
theorem dX12_menOf_30 : decode cX12_menOf 30 = .ok (.if_icmp .eq 7, 3) := by decide +kernel
theorem dX12_menOf_33 : decode cX12_menOf 33 = .ok (.iconst 1, 1) := by decide +kernel
theorem dX12_menOf_34 : decode cX12_menOf 34 = .ok (.goto 4, 3) := by decide +kernel
theorem dX12_menOf_37 : decode cX12_menOf 37 = .ok (.iconst 0, 1) := by decide +kernel
theorem dX12_menOf_38 : decode cX12_menOf 38 = .ok (.iadd, 1) := by decide +kernel
theorem dX12_menOf_39 : decode cX12_menOf 39 = .ok (.istore_n 2, 1) := by decide +kernel
theorem dX12_menOf_40 : decode cX12_menOf 40 = .ok (.iinc 3 1, 3) := by decide +kernel
theorem dX12_menOf_43 : decode cX12_menOf 43 = .ok (.goto (-39), 3) := by decide +kernel
theorem dX12_menOf_46 : decode cX12_menOf 46 = .ok (.iload_n 2, 1) := by decide +kernel
theorem dX12_menOf_47 : decode cX12_menOf 47 = .ok (.ireturn, 1) := by decide +kernel
theorem dX12_isOver_0 : decode cX12_isOver 0 = .ok (.aload_n 0, 1) := by decide +kernel
theorem dX12_isOver_1 : decode cX12_isOver 1 = .ok (.iconst 0, 1) := by decide +kernel
theorem dX12_isOver_2 : decode cX12_isOver 2 = .ok (.invokevirtual 439, 3) := by decide +kernel
theorem dX12_isOver_5 : decode cX12_isOver 5 = .ok (.ifCond .eq 11, 3) := by decide +kernel
theorem dX12_isOver_8 : decode cX12_isOver 8 = .ok (.aload_n 0, 1) := by decide +kernel
theorem dX12_isOver_9 : decode cX12_isOver 9 = .ok (.iconst 1, 1) := by decide +kernel
theorem dX12_isOver_10 : decode cX12_isOver 10 = .ok (.invokevirtual 439, 3) := by decide +kernel
theorem dX12_isOver_13 : decode cX12_isOver 13 = .ok (.ifCond .ne 7, 3) := by decide +kernel
theorem dX12_isOver_16 : decode cX12_isOver 16 = .ok (.iconst 1, 1) := by decide +kernel
theorem dX12_isOver_17 : decode cX12_isOver 17 = .ok (.goto 4, 3) := by decide +kernel
theorem dX12_isOver_20 : decode cX12_isOver 20 = .ok (.iconst 0, 1) := by decide +kernel
theorem dX12_isOver_21 : decode cX12_isOver 21 = .ok (.ireturn, 1) := by decide +kernel
theorem dX12_nextMan_0 : decode cX12_nextMan 0 = .ok (.iconst (-1), 1) := by decide +kernel
theorem dX12_nextMan_1 : decode cX12_nextMan 1 = .ok (.istore_n 2, 1) := by decide +kernel
theorem dX12_nextMan_2 : decode cX12_nextMan 2 = .ok (.iconst (-1), 1) := by decide +kernel
theorem dX12_nextMan_3 : decode cX12_nextMan 3 = .ok (.istore_n 3, 1) := by decide +kernel
theorem dX12_nextMan_4 : decode cX12_nextMan 4 = .ok (.aload_n 0, 1) := by decide +kernel
theorem dX12_nextMan_5 : decode cX12_nextMan 5 = .ok (.getfield 287, 3) := by decide +kernel
theorem dX12_nextMan_8 : decode cX12_nextMan 8 = .ok (.iconst 1, 1) := by decide +kernel
theorem dX12_nextMan_9 : decode cX12_nextMan 9 = .ok (.isub, 1) := by decide +kernel
theorem dX12_nextMan_10 : decode cX12_nextMan 10 = .ok (.istore 4, 2) := by decide +kernel
theorem dX12_nextMan_12 : decode cX12_nextMan 12 = .ok (.iload 4, 2) := by decide +kernel
theorem dX12_nextMan_14 : decode cX12_nextMan 14 = .ok (.ifCond .lt 52, 3) := by decide +kernel
theorem dX12_nextMan_17 : decode cX12_nextMan 17 = .ok (.aload_n 0, 1) := by decide +kernel
theorem dX12_nextMan_18 : decode cX12_nextMan 18 = .ok (.getfield 41, 3) := by decide +kernel
theorem dX12_nextMan_21 : decode cX12_nextMan 21 = .ok (.iload 4, 2) := by decide +kernel
theorem dX12_nextMan_23 : decode cX12_nextMan 23 = .ok (.iaload, 1) := by decide +kernel
theorem dX12_nextMan_24 : decode cX12_nextMan 24 = .ok (.iload_n 1, 1) := by decide +kernel
theorem dX12_nextMan_25 : decode cX12_nextMan 25 = .ok (.if_icmp .ne 35, 3) := by decide +kernel
theorem dX12_nextMan_28 : decode cX12_nextMan 28 = .ok (.aload_n 0, 1) := by decide +kernel
theorem dX12_nextMan_29 : decode cX12_nextMan 29 = .ok (.getfield 44, 3) := by decide +kernel
theorem dX12_nextMan_32 : decode cX12_nextMan 32 = .ok (.iload 4, 2) := by decide +kernel
theorem dX12_nextMan_34 : decode cX12_nextMan 34 = .ok (.iaload, 1) := by decide +kernel
theorem dX12_nextMan_35 : decode cX12_nextMan 35 = .ok (.iconst (-1), 1) := by decide +kernel
theorem dX12_nextMan_36 : decode cX12_nextMan 36 = .ok (.if_icmp .eq 24, 3) := by decide +kernel
theorem dX12_nextMan_39 : decode cX12_nextMan 39 = .ok (.iload 4, 2) := by decide +kernel
theorem dX12_nextMan_41 : decode cX12_nextMan 41 = .ok (.istore_n 2, 1) := by decide +kernel
theorem dX12_nextMan_42 : decode cX12_nextMan 42 = .ok (.iload 4, 2) := by decide +kernel
theorem dX12_nextMan_44 : decode cX12_nextMan 44 = .ok (.aload_n 0, 1) := by decide +kernel
theorem dX12_nextMan_45 : decode cX12_nextMan 45 = .ok (.getfield 47, 3) := by decide +kernel
theorem dX12_nextMan_48 : decode cX12_nextMan 48 = .ok (.iload_n 1, 1) := by decide +kernel
theorem dX12_nextMan_49 : decode cX12_nextMan 49 = .ok (.iaload, 1) := by decide +kernel
theorem dX12_nextMan_50 : decode cX12_nextMan 50 = .ok (.if_icmp .le 8, 3) := by decide +kernel
theorem dX12_nextMan_53 : decode cX12_nextMan 53 = .ok (.iload 4, 2) := by decide +kernel
theorem dX12_nextMan_55 : decode cX12_nextMan 55 = .ok (.goto 4, 3) := by decide +kernel
theorem dX12_nextMan_58 : decode cX12_nextMan 58 = .ok (.iload_n 3, 1) := by decide +kernel
theorem dX12_nextMan_59 : decode cX12_nextMan 59 = .ok (.istore_n 3, 1) := by decide +kernel
theorem dX12_nextMan_60 : decode cX12_nextMan 60 = .ok (.iinc 4 (-1), 3) := by decide +kernel
theorem dX12_nextMan_63 : decode cX12_nextMan 63 = .ok (.goto (-51), 3) := by decide +kernel
theorem dX12_nextMan_66 : decode cX12_nextMan 66 = .ok (.iload_n 3, 1) := by decide +kernel
theorem dX12_nextMan_67 : decode cX12_nextMan 67 = .ok (.iconst (-1), 1) := by decide +kernel
theorem dX12_nextMan_68 : decode cX12_nextMan 68 = .ok (.if_icmp .eq 7, 3) := by decide +kernel
theorem dX12_nextMan_71 : decode cX12_nextMan 71 = .ok (.iload_n 3, 1) := by decide +kernel
theorem dX12_nextMan_72 : decode cX12_nextMan 72 = .ok (.goto 4, 3) := by decide +kernel
theorem dX12_nextMan_75 : decode cX12_nextMan 75 = .ok (.iload_n 2, 1) := by decide +kernel
theorem dX12_nextMan_76 : decode cX12_nextMan 76 = .ok (.ireturn, 1) := by decide +kernel
theorem dX12_keepMen_0 : decode cX12_keepMen 0 = .ok (.iconst 0, 1) := by decide +kernel
theorem dX12_keepMen_1 : decode cX12_keepMen 1 = .ok (.istore_n 2, 1) := by decide +kernel
theorem dX12_keepMen_2 : decode cX12_keepMen 2 = .ok (.iload_n 2, 1) := by decide +kernel
theorem dX12_keepMen_3 : decode cX12_keepMen 3 = .ok (.bipush 6, 2) := by decide +kernel
theorem dX12_keepMen_5 : decode cX12_keepMen 5 = .ok (.if_icmp .ge 26, 3) := by decide +kernel
theorem dX12_keepMen_8 : decode cX12_keepMen 8 = .ok (.aload_n 0, 1) := by decide +kernel
theorem dX12_keepMen_9 : decode cX12_keepMen 9 = .ok (.getfield 142, 3) := by decide +kernel
theorem dX12_keepMen_12 : decode cX12_keepMen 12 = .ok (.bipush 6, 2) := by decide +kernel
theorem dX12_keepMen_14 : decode cX12_keepMen 14 = .ok (.iload_n 1, 1) := by decide +kernel
theorem dX12_keepMen_15 : decode cX12_keepMen 15 = .ok (.imul, 1) := by decide +kernel
theorem dX12_keepMen_16 : decode cX12_keepMen 16 = .ok (.iload_n 2, 1) := by decide +kernel
theorem dX12_keepMen_17 : decode cX12_keepMen 17 = .ok (.iadd, 1) := by decide +kernel
theorem dX12_keepMen_18 : decode cX12_keepMen 18 = .ok (.aload_n 0, 1) := by decide +kernel
theorem dX12_keepMen_19 : decode cX12_keepMen 19 = .ok (.getfield 44, 3) := by decide +kernel
theorem dX12_keepMen_22 : decode cX12_keepMen 22 = .ok (.iload_n 2, 1) := by decide +kernel
theorem dX12_keepMen_23 : decode cX12_keepMen 23 = .ok (.iaload, 1) := by decide +kernel
theorem dX12_keepMen_24 : decode cX12_keepMen 24 = .ok (.iastore, 1) := by decide +kernel
theorem dX12_keepMen_25 : decode cX12_keepMen 25 = .ok (.iinc 2 1, 3) := by decide +kernel
theorem dX12_keepMen_28 : decode cX12_keepMen 28 = .ok (.goto (-26), 3) := by decide +kernel
theorem dX12_keepMen_31 : decode cX12_keepMen 31 = .ok (.aload_n 0, 1) := by decide +kernel
theorem dX12_keepMen_32 : decode cX12_keepMen 32 = .ok (.getfield 145, 3) := by decide +kernel
theorem dX12_keepMen_35 : decode cX12_keepMen 35 = .ok (.iconst 2, 1) := by decide +kernel
theorem dX12_keepMen_36 : decode cX12_keepMen 36 = .ok (.iload_n 1, 1) := by decide +kernel
theorem dX12_keepMen_37 : decode cX12_keepMen 37 = .ok (.imul, 1) := by decide +kernel
theorem dX12_keepMen_38 : decode cX12_keepMen 38 = .ok (.aload_n 0, 1) := by decide +kernel
theorem dX12_keepMen_39 : decode cX12_keepMen 39 = .ok (.getfield 47, 3) := by decide +kernel
theorem dX12_keepMen_42 : decode cX12_keepMen 42 = .ok (.iconst 0, 1) := by decide +kernel
theorem dX12_keepMen_43 : decode cX12_keepMen 43 = .ok (.iaload, 1) := by decide +kernel
theorem dX12_keepMen_44 : decode cX12_keepMen 44 = .ok (.iastore, 1) := by decide +kernel
theorem dX12_keepMen_45 : decode cX12_keepMen 45 = .ok (.aload_n 0, 1) := by decide +kernel
theorem dX12_keepMen_46 : decode cX12_keepMen 46 = .ok (.getfield 145, 3) := by decide +kernel
theorem dX12_keepMen_49 : decode cX12_keepMen 49 = .ok (.iconst 2, 1) := by decide +kernel
theorem dX12_keepMen_50 : decode cX12_keepMen 50 = .ok (.iload_n 1, 1) := by decide +kernel
theorem dX12_keepMen_51 : decode cX12_keepMen 51 = .ok (.imul, 1) := by decide +kernel
theorem dX12_keepMen_52 : decode cX12_keepMen 52 = .ok (.iconst 1, 1) := by decide +kernel
theorem dX12_keepMen_53 : decode cX12_keepMen 53 = .ok (.iadd, 1) := by decide +kernel
theorem dX12_keepMen_54 : decode cX12_keepMen 54 = .ok (.aload_n 0, 1) := by decide +kernel
theorem dX12_keepMen_55 : decode cX12_keepMen 55 = .ok (.getfield 47, 3) := by decide +kernel
theorem dX12_keepMen_58 : decode cX12_keepMen 58 = .ok (.iconst 1, 1) := by decide +kernel
theorem dX12_keepMen_59 : decode cX12_keepMen 59 = .ok (.iaload, 1) := by decide +kernel
theorem dX12_keepMen_60 : decode cX12_keepMen 60 = .ok (.iastore, 1) := by decide +kernel
theorem dX12_keepMen_61 : decode cX12_keepMen 61 = .ok (.aload_n 0, 1) := by decide +kernel
theorem dX12_keepMen_62 : decode cX12_keepMen 62 = .ok (.getfield 148, 3) := by decide +kernel
theorem dX12_keepMen_65 : decode cX12_keepMen 65 = .ok (.iload_n 1, 1) := by decide +kernel
theorem dX12_keepMen_66 : decode cX12_keepMen 66 = .ok (.aload_n 0, 1) := by decide +kernel
theorem dX12_keepMen_67 : decode cX12_keepMen 67 = .ok (.getfield 296, 3) := by decide +kernel
theorem dX12_keepMen_70 : decode cX12_keepMen 70 = .ok (.iastore, 1) := by decide +kernel
theorem dX12_keepMen_71 : decode cX12_keepMen 71 = .ok (.return_, 1) := by decide +kernel
theorem dX12_backTo_0 : decode cX12_backTo 0 = .ok (.iconst 0, 1) := by decide +kernel
theorem dX12_backTo_1 : decode cX12_backTo 1 = .ok (.istore_n 2, 1) := by decide +kernel
theorem dX12_backTo_2 : decode cX12_backTo 2 = .ok (.iload_n 2, 1) := by decide +kernel
theorem dX12_backTo_3 : decode cX12_backTo 3 = .ok (.bipush 6, 2) := by decide +kernel
theorem dX12_backTo_5 : decode cX12_backTo 5 = .ok (.if_icmp .ge 26, 3) := by decide +kernel
theorem dX12_backTo_8 : decode cX12_backTo 8 = .ok (.aload_n 0, 1) := by decide +kernel
theorem dX12_backTo_9 : decode cX12_backTo 9 = .ok (.getfield 44, 3) := by decide +kernel
theorem dX12_backTo_12 : decode cX12_backTo 12 = .ok (.iload_n 2, 1) := by decide +kernel
theorem dX12_backTo_13 : decode cX12_backTo 13 = .ok (.aload_n 0, 1) := by decide +kernel
theorem dX12_backTo_14 : decode cX12_backTo 14 = .ok (.getfield 142, 3) := by decide +kernel
theorem dX12_backTo_17 : decode cX12_backTo 17 = .ok (.bipush 6, 2) := by decide +kernel
theorem dX12_backTo_19 : decode cX12_backTo 19 = .ok (.iload_n 1, 1) := by decide +kernel
theorem dX12_backTo_20 : decode cX12_backTo 20 = .ok (.imul, 1) := by decide +kernel
theorem dX12_backTo_21 : decode cX12_backTo 21 = .ok (.iload_n 2, 1) := by decide +kernel
theorem dX12_backTo_22 : decode cX12_backTo 22 = .ok (.iadd, 1) := by decide +kernel
theorem dX12_backTo_23 : decode cX12_backTo 23 = .ok (.iaload, 1) := by decide +kernel
theorem dX12_backTo_24 : decode cX12_backTo 24 = .ok (.iastore, 1) := by decide +kernel
theorem dX12_backTo_25 : decode cX12_backTo 25 = .ok (.iinc 2 1, 3) := by decide +kernel
theorem dX12_backTo_28 : decode cX12_backTo 28 = .ok (.goto (-26), 3) := by decide +kernel
theorem dX12_backTo_31 : decode cX12_backTo 31 = .ok (.aload_n 0, 1) := by decide +kernel
theorem dX12_backTo_32 : decode cX12_backTo 32 = .ok (.getfield 47, 3) := by decide +kernel
theorem dX12_backTo_35 : decode cX12_backTo 35 = .ok (.iconst 0, 1) := by decide +kernel
theorem dX12_backTo_36 : decode cX12_backTo 36 = .ok (.aload_n 0, 1) := by decide +kernel
theorem dX12_backTo_37 : decode cX12_backTo 37 = .ok (.getfield 145, 3) := by decide +kernel
theorem dX12_backTo_40 : decode cX12_backTo 40 = .ok (.iconst 2, 1) := by decide +kernel
theorem dX12_backTo_41 : decode cX12_backTo 41 = .ok (.iload_n 1, 1) := by decide +kernel
theorem dX12_backTo_42 : decode cX12_backTo 42 = .ok (.imul, 1) := by decide +kernel
theorem dX12_backTo_43 : decode cX12_backTo 43 = .ok (.iaload, 1) := by decide +kernel
theorem dX12_backTo_44 : decode cX12_backTo 44 = .ok (.iastore, 1) := by decide +kernel
theorem dX12_backTo_45 : decode cX12_backTo 45 = .ok (.aload_n 0, 1) := by decide +kernel
theorem dX12_backTo_46 : decode cX12_backTo 46 = .ok (.getfield 47, 3) := by decide +kernel
theorem dX12_backTo_49 : decode cX12_backTo 49 = .ok (.iconst 1, 1) := by decide +kernel
theorem dX12_backTo_50 : decode cX12_backTo 50 = .ok (.aload_n 0, 1) := by decide +kernel
theorem dX12_backTo_51 : decode cX12_backTo 51 = .ok (.getfield 145, 3) := by decide +kernel
theorem dX12_backTo_54 : decode cX12_backTo 54 = .ok (.iconst 2, 1) := by decide +kernel
theorem dX12_backTo_55 : decode cX12_backTo 55 = .ok (.iload_n 1, 1) := by decide +kernel
theorem dX12_backTo_56 : decode cX12_backTo 56 = .ok (.imul, 1) := by decide +kernel
theorem dX12_backTo_57 : decode cX12_backTo 57 = .ok (.iconst 1, 1) := by decide +kernel
theorem dX12_backTo_58 : decode cX12_backTo 58 = .ok (.iadd, 1) := by decide +kernel
theorem dX12_backTo_59 : decode cX12_backTo 59 = .ok (.iaload, 1) := by decide +kernel
theorem dX12_backTo_60 : decode cX12_backTo 60 = .ok (.iastore, 1) := by decide +kernel
theorem dX12_backTo_61 : decode cX12_backTo 61 = .ok (.aload_n 0, 1) := by decide +kernel
theorem dX12_backTo_62 : decode cX12_backTo 62 = .ok (.aload_n 0, 1) := by decide +kernel
theorem dX12_backTo_63 : decode cX12_backTo 63 = .ok (.getfield 148, 3) := by decide +kernel
theorem dX12_backTo_66 : decode cX12_backTo 66 = .ok (.iload_n 1, 1) := by decide +kernel
theorem dX12_backTo_67 : decode cX12_backTo 67 = .ok (.iaload, 1) := by decide +kernel
theorem dX12_backTo_68 : decode cX12_backTo 68 = .ok (.putfield 296, 3) := by decide +kernel
theorem dX12_backTo_71 : decode cX12_backTo 71 = .ok (.return_, 1) := by decide +kernel
theorem dX12_next_0 : decode cX12_next 0 = .ok (.iload_n 1, 1) := by decide +kernel
theorem dX12_next_1 : decode cX12_next 1 = .ok (.aload_n 0, 1) := by decide +kernel
theorem dX12_next_2 : decode cX12_next 2 = .ok (.getfield 278, 3) := by decide +kernel
theorem dX12_next_5 : decode cX12_next 5 = .ok (.irem, 1) := by decide +kernel
theorem dX12_next_6 : decode cX12_next 6 = .ok (.iload_n 2, 1) := by decide +kernel
theorem dX12_next_7 : decode cX12_next 7 = .ok (.iconst 1, 1) := by decide +kernel
theorem dX12_next_8 : decode cX12_next 8 = .ok (.if_icmp .ne 7, 3) := by decide +kernel
theorem dX12_next_11 : decode cX12_next 11 = .ok (.iconst 1, 1) := by decide +kernel
theorem dX12_next_12 : decode cX12_next 12 = .ok (.goto 13, 3) := by decide +kernel
theorem dX12_next_15 : decode cX12_next 15 = .ok (.iload_n 2, 1) := by decide +kernel
theorem dX12_next_16 : decode cX12_next 16 = .ok (.iconst 3, 1) := by decide +kernel
theorem dX12_next_17 : decode cX12_next 17 = .ok (.if_icmp .ne 7, 3) := by decide +kernel
theorem dX12_next_20 : decode cX12_next 20 = .ok (.iconst (-1), 1) := by decide +kernel
theorem dX12_next_21 : decode cX12_next 21 = .ok (.goto 4, 3) := by decide +kernel
theorem dX12_next_24 : decode cX12_next 24 = .ok (.iconst 0, 1) := by decide +kernel
theorem dX12_next_25 : decode cX12_next 25 = .ok (.iadd, 1) := by decide +kernel
theorem dX12_next_26 : decode cX12_next 26 = .ok (.istore_n 3, 1) := by decide +kernel
theorem dX12_next_27 : decode cX12_next 27 = .ok (.iload_n 1, 1) := by decide +kernel
theorem dX12_next_28 : decode cX12_next 28 = .ok (.aload_n 0, 1) := by decide +kernel
theorem dX12_next_29 : decode cX12_next 29 = .ok (.getfield 278, 3) := by decide +kernel
theorem dX12_next_32 : decode cX12_next 32 = .ok (.idiv, 1) := by decide +kernel
theorem dX12_next_33 : decode cX12_next 33 = .ok (.iload_n 2, 1) := by decide +kernel
theorem dX12_next_34 : decode cX12_next 34 = .ok (.iconst 2, 1) := by decide +kernel
theorem dX12_next_35 : decode cX12_next 35 = .ok (.if_icmp .ne 7, 3) := by decide +kernel
theorem dX12_next_38 : decode cX12_next 38 = .ok (.iconst 1, 1) := by decide +kernel
theorem dX12_next_39 : decode cX12_next 39 = .ok (.goto 12, 3) := by decide +kernel
theorem dX12_next_42 : decode cX12_next 42 = .ok (.iload_n 2, 1) := by decide +kernel
theorem dX12_next_43 : decode cX12_next 43 = .ok (.ifCond .ne 7, 3) := by decide +kernel
theorem dX12_next_46 : decode cX12_next 46 = .ok (.iconst (-1), 1) := by decide +kernel
theorem dX12_next_47 : decode cX12_next 47 = .ok (.goto 4, 3) := by decide +kernel
theorem dX12_next_50 : decode cX12_next 50 = .ok (.iconst 0, 1) := by decide +kernel
theorem dX12_next_51 : decode cX12_next 51 = .ok (.iadd, 1) := by decide +kernel
theorem dX12_next_52 : decode cX12_next 52 = .ok (.istore 4, 2) := by decide +kernel
theorem dX12_next_54 : decode cX12_next 54 = .ok (.iload_n 3, 1) := by decide +kernel
theorem dX12_next_55 : decode cX12_next 55 = .ok (.iconst 0, 1) := by decide +kernel
theorem dX12_next_56 : decode cX12_next 56 = .ok (.aload_n 0, 1) := by decide +kernel
theorem dX12_next_57 : decode cX12_next 57 = .ok (.getfield 278, 3) := by decide +kernel
theorem dX12_next_60 : decode cX12_next 60 = .ok (.iconst 1, 1) := by decide +kernel
theorem dX12_next_61 : decode cX12_next 61 = .ok (.isub, 1) := by decide +kernel
theorem dX12_next_62 : decode cX12_next 62 = .ok (.invokestatic 165, 3) := by decide +kernel
theorem dX12_next_65 : decode cX12_next 65 = .ok (.ifCond .eq 30, 3) := by decide +kernel
theorem dX12_next_68 : decode cX12_next 68 = .ok (.iload 4, 2) := by decide +kernel
theorem dX12_next_70 : decode cX12_next 70 = .ok (.iconst 0, 1) := by decide +kernel
theorem dX12_next_71 : decode cX12_next 71 = .ok (.aload_n 0, 1) := by decide +kernel
theorem dX12_next_72 : decode cX12_next 72 = .ok (.getfield 281, 3) := by decide +kernel
theorem dX12_next_75 : decode cX12_next 75 = .ok (.iconst 1, 1) := by decide +kernel
theorem dX12_next_76 : decode cX12_next 76 = .ok (.isub, 1) := by decide +kernel
theorem dX12_next_77 : decode cX12_next 77 = .ok (.invokestatic 165, 3) := by decide +kernel
theorem dX12_next_80 : decode cX12_next 80 = .ok (.ifCond .eq 15, 3) := by decide +kernel
theorem dX12_next_83 : decode cX12_next 83 = .ok (.iload 4, 2) := by decide +kernel
theorem dX12_next_85 : decode cX12_next 85 = .ok (.aload_n 0, 1) := by decide +kernel
theorem dX12_next_86 : decode cX12_next 86 = .ok (.getfield 278, 3) := by decide +kernel
theorem dX12_next_89 : decode cX12_next 89 = .ok (.imul, 1) := by decide +kernel
theorem dX12_next_90 : decode cX12_next 90 = .ok (.iload_n 3, 1) := by decide +kernel
theorem dX12_next_91 : decode cX12_next 91 = .ok (.iadd, 1) := by decide +kernel
theorem dX12_next_92 : decode cX12_next 92 = .ok (.goto 4, 3) := by decide +kernel
theorem dX12_next_95 : decode cX12_next 95 = .ok (.iconst (-1), 1) := by decide +kernel
theorem dX12_next_96 : decode cX12_next 96 = .ok (.ireturn, 1) := by decide +kernel
theorem dX12_has_0 : decode cX12_has 0 = .ok (.lload_n 0, 1) := by decide +kernel
theorem dX12_has_1 : decode cX12_has 1 = .ok (.iload_n 2, 1) := by decide +kernel
theorem dX12_has_2 : decode cX12_has 2 = .ok (.lshr, 1) := by decide +kernel
theorem dX12_has_3 : decode cX12_has 3 = .ok (.lconst 1, 1) := by decide +kernel
theorem dX12_has_4 : decode cX12_has 4 = .ok (.land, 1) := by decide +kernel
theorem dX12_has_5 : decode cX12_has 5 = .ok (.lconst 1, 1) := by decide +kernel
theorem dX12_has_6 : decode cX12_has 6 = .ok (.lcmp, 1) := by decide +kernel
theorem dX12_has_7 : decode cX12_has 7 = .ok (.ifCond .ne 7, 3) := by decide +kernel
theorem dX12_has_10 : decode cX12_has 10 = .ok (.iconst 1, 1) := by decide +kernel
theorem dX12_has_11 : decode cX12_has 11 = .ok (.goto 4, 3) := by decide +kernel
theorem dX12_has_14 : decode cX12_has 14 = .ok (.iconst 0, 1) := by decide +kernel
theorem dX12_has_15 : decode cX12_has 15 = .ok (.ireturn, 1) := by decide +kernel
theorem dX12_ones_0 : decode cX12_ones 0 = .ok (.iconst 0, 1) := by decide +kernel
theorem dX12_ones_1 : decode cX12_ones 1 = .ok (.istore_n 2, 1) := by decide +kernel
theorem dX12_ones_2 : decode cX12_ones 2 = .ok (.iconst 0, 1) := by decide +kernel
theorem dX12_ones_3 : decode cX12_ones 3 = .ok (.istore_n 3, 1) := by decide +kernel
theorem dX12_ones_4 : decode cX12_ones 4 = .ok (.iload_n 3, 1) := by decide +kernel
theorem dX12_ones_5 : decode cX12_ones 5 = .ok (.bipush 36, 2) := by decide +kernel
theorem dX12_ones_7 : decode cX12_ones 7 = .ok (.if_icmp .ge 25, 3) := by decide +kernel
theorem dX12_ones_10 : decode cX12_ones 10 = .ok (.iload_n 2, 1) := by decide +kernel
theorem dX12_ones_11 : decode cX12_ones 11 = .ok (.lload_n 0, 1) := by decide +kernel
theorem dX12_ones_12 : decode cX12_ones 12 = .ok (.iload_n 3, 1) := by decide +kernel
theorem dX12_ones_13 : decode cX12_ones 13 = .ok (.invokestatic 299, 3) := by decide +kernel
theorem dX12_ones_16 : decode cX12_ones 16 = .ok (.ifCond .eq 7, 3) := by decide +kernel
theorem dX12_ones_19 : decode cX12_ones 19 = .ok (.iconst 1, 1) := by decide +kernel
theorem dX12_ones_20 : decode cX12_ones 20 = .ok (.goto 4, 3) := by decide +kernel
theorem dX12_ones_23 : decode cX12_ones 23 = .ok (.iconst 0, 1) := by decide +kernel
theorem dX12_ones_24 : decode cX12_ones 24 = .ok (.iadd, 1) := by decide +kernel
theorem dX12_ones_25 : decode cX12_ones 25 = .ok (.istore_n 2, 1) := by decide +kernel
theorem dX12_ones_26 : decode cX12_ones 26 = .ok (.iinc 3 1, 3) := by decide +kernel
theorem dX12_ones_29 : decode cX12_ones 29 = .ok (.goto (-25), 3) := by decide +kernel
theorem dX12_ones_32 : decode cX12_ones 32 = .ok (.iload_n 2, 1) := by decide +kernel
theorem dX12_ones_33 : decode cX12_ones 33 = .ok (.ireturn, 1) := by decide +kernel
theorem dX12_moveOf_0 : decode cX12_moveOf 0 = .ok (.aload_n 0, 1) := by decide +kernel
theorem dX12_moveOf_1 : decode cX12_moveOf 1 = .ok (.getfield 32, 3) := by decide +kernel
theorem dX12_moveOf_4 : decode cX12_moveOf 4 = .ok (.sipush 331, 3) := by decide +kernel
theorem dX12_moveOf_7 : decode cX12_moveOf 7 = .ok (.aload_n 0, 1) := by decide +kernel
theorem dX12_moveOf_8 : decode cX12_moveOf 8 = .ok (.getfield 430, 3) := by decide +kernel
theorem dX12_moveOf_11 : decode cX12_moveOf 11 = .ok (.imul, 1) := by decide +kernel
theorem dX12_moveOf_12 : decode cX12_moveOf 12 = .ok (.iconst 1, 1) := by decide +kernel
theorem dX12_moveOf_13 : decode cX12_moveOf 13 = .ok (.iadd, 1) := by decide +kernel
theorem dX12_moveOf_14 : decode cX12_moveOf 14 = .ok (.bipush 11, 2) := by decide +kernel
theorem dX12_moveOf_16 : decode cX12_moveOf 16 = .ok (.iload_n 1, 1) := by decide +kernel
theorem dX12_moveOf_17 : decode cX12_moveOf 17 = .ok (.imul, 1) := by decide +kernel
theorem dX12_moveOf_18 : decode cX12_moveOf 18 = .ok (.iadd, 1) := by decide +kernel
theorem dX12_moveOf_19 : decode cX12_moveOf 19 = .ok (.iload_n 2, 1) := by decide +kernel
theorem dX12_moveOf_20 : decode cX12_moveOf 20 = .ok (.iadd, 1) := by decide +kernel
theorem dX12_moveOf_21 : decode cX12_moveOf 21 = .ok (.iaload, 1) := by decide +kernel
theorem dX12_moveOf_22 : decode cX12_moveOf 22 = .ok (.ireturn, 1) := by decide +kernel
set_option maxHeartbeats 4000000 in
set_option maxRecDepth 100000 in
theorem q_in {D : va_G} {ad : Nat → Nat} {cA : Nat → ClassId} {X : XT} {v a b : Int} (hv : inR v) (ha : inR a) (hb : inR b) : MetX (wM D ad cA) yX12_in cX12_in 3 (some .boolean) 0 0 [.int (iI (v)), .int (iI (a)), .int (iI (b))] X (fun r X' => X' = X ∧ ∃ u : Int, r = some (.int (iI u)) ∧ ((u = 1 ∧ a ≤ v ∧ v ≤ b) ∨ (u = 0 ∧ ¬ (a ≤ v ∧ v ≤ b)))) := by
  unfold inR at hv ha hb
  refine MetX.mk (own := RX12) (by decide +kernel) rfl (nle rfl) (fun E C hQ => ?_)
  refine Wx_lv (lv' := [(0, .int (iI (v))), (1, .int (iI (a))), (2, .int (iI (b)))]) rfl ?_
  refine x_iload_n (i := 0) C dX12_in_0 rfl rfl ?_
  refine x_iload_n (i := 1) C dX12_in_1 rfl rfl ?_
  refine x_icmp_lt (tgt := 14) C dX12_in_2 (by decide) ⟨by omega, by omega⟩ ⟨by omega, by omega⟩ (fun h1 => ?_) (fun h1 => ?_)
  · refine x_iconst C dX12_in_14 ?_
    exact x_zret C hQ (by omega) dX12_in_15 (⟨rfl, _, rfl, by omega⟩)
  · refine x_iload_n (i := 0) C dX12_in_5 rfl rfl ?_
    refine x_iload_n (i := 2) C dX12_in_6 rfl rfl ?_
    refine x_icmp_gt (tgt := 14) C dX12_in_7 (by decide) ⟨by omega, by omega⟩ ⟨by omega, by omega⟩ (fun h2 => ?_) (fun h2 => ?_)
    · refine x_iconst C dX12_in_14 ?_
      exact x_zret C hQ (by omega) dX12_in_15 (⟨rfl, _, rfl, by omega⟩)
    · refine x_iconst C dX12_in_10 ?_
      refine x_goto (tgt := 15) C dX12_in_11 (by decide) ?_
      exact x_zret C hQ (by omega) dX12_in_15 (⟨rfl, _, rfl, by omega⟩)
set_option maxRecDepth 10000 in
theorem t_M_6 {D : va_G} {ad : Nat → Nat} {cA : Nat → ClassId} : CTR mtM vM gM (wM D ad cA) k_M_6 := by
  intro g X hpre
  obtain ⟨h00, hei, hel, hdl, hH, hE⟩ := hpre
  have h0 : (0 : Int) ≤ g.1 0 ∧ g.1 0 ≤ (0 : Int) := hei 0 _ rfl
  have h1 : ((-2147483648) : Int) ≤ g.1 1 ∧ g.1 1 ≤ (2147483647 : Int) := hei 1 _ rfl
  have h2 : ((-2147483648) : Int) ≤ g.1 2 ∧ g.1 2 ≤ (2147483647 : Int) := hei 2 _ rfl
  have h3 : ((-2147483648) : Int) ≤ g.1 3 ∧ g.1 3 ≤ (2147483647 : Int) := hei 3 _ rfl
  refine MetX.imp (fun r X1 hp => ?_) (q_in (X := X) (v := g.1 1 + 0) (a := g.1 2 + 0) (b := g.1 3 + 0) ⟨by omega, by omega⟩ ⟨by omega, by omega⟩ ⟨by omega, by omega⟩)
  obtain ⟨rfl, u, rfl, hu⟩ := hp
  rcases hu with ⟨rfl, u1, u2⟩ | ⟨rfl, u1⟩
  · exact (altM_mk 1 [1] rfl (ei_cons ⟨by show (0 : Int) ≤ g.1 0; omega, by show g.1 0 ≤ (0 : Int); omega⟩ (ei_cons ⟨by show ((-2147483648) : Int) ≤ g.1 1; omega, by show g.1 1 ≤ (2147483647 : Int); omega⟩ (ei_cons ⟨by show ((-2147483648) : Int) ≤ g.1 2; omega, by show g.1 2 ≤ (2147483647 : Int); omega⟩ (ei_cons ⟨by show ((-2147483648) : Int) ≤ g.1 3; omega, by show g.1 3 ≤ (2147483647 : Int); omega⟩ (ei_cons ⟨by show (1 : Int) ≤ 1; omega, by show 1 ≤ (1 : Int); omega⟩ ei_nil))))) el_nil (by rfl) dl_nil (gd_cons (by show (g.1 2) + 0 ≤ (g.1 1) + 0; omega) (gd_cons (by show (g.1 1) + 0 ≤ (g.1 3) + 0; omega) gd_nil)) hH hE FR.rf)
  · exact (altM_mk 0 [0] rfl (ei_cons ⟨by show (0 : Int) ≤ g.1 0; omega, by show g.1 0 ≤ (0 : Int); omega⟩ (ei_cons ⟨by show ((-2147483648) : Int) ≤ g.1 1; omega, by show g.1 1 ≤ (2147483647 : Int); omega⟩ (ei_cons ⟨by show ((-2147483648) : Int) ≤ g.1 2; omega, by show g.1 2 ≤ (2147483647 : Int); omega⟩ (ei_cons ⟨by show ((-2147483648) : Int) ≤ g.1 3; omega, by show g.1 3 ≤ (2147483647 : Int); omega⟩ (ei_cons ⟨by show (0 : Int) ≤ 0; omega, by show 0 ≤ (0 : Int); omega⟩ ei_nil))))) el_nil (by rfl) dl_nil gd_nil hH hE FR.rf)
set_option maxHeartbeats 4000000 in
set_option maxRecDepth 100000 in
theorem lq_menOf {D : va_G} {ad : Nat → Nat} {cA : Nat → ClassId} {X : XT} {sd : Int} (hH : HG vM X) (s0 : 0 ≤ sd) (s1 : sd ≤ 1) {E : ET} {rm : Room} (C : CX E (wM D ad cA) cX12_menOf 4 RX12 (some .int) rm) (hQ : EQ E (wM D ad cA) (fun r X' => X' = X ∧ ∃ u : Int, r = some (.int (iI u)) ∧ u = cntM 12 0 sd X (menN X))) : ∀ (n : Nat) (a : Int) (i : Int), X.1 0 25 - i < n → 0 ≤ i → i ≤ X.1 0 25 → a = cntM 12 0 sd X i.toNat → Wx E (wM D ad cA) 4 (PX (wM D ad cA) X) 4 [(3, .int (iI (i))), (2, .int (iI (a))), (0, .ref 0), (1, .int (iI (sd)))] [] := by
  intro n
  induction n with
  | zero => intro a i hn i0 i1 hv; exfalso; omega
  | succ n ih =>
    intro a i hn i0 i1 hv
    have hm : (0 : Int) ≤ X.1 0 25 ∧ X.1 0 25 ≤ (7 : Int) := hH.rF (k := 0) (i := 25) rfl rfl
    refine x_iload_n (i := 3) C dX12_menOf_4 rfl rfl ?_
    refine x_aload_n (i := 0) C dX12_menOf_5 rfl rfl ?_
    refine x_getI C fkM_X12_287 (nlt rfl) rfl dX12_menOf_6 ?_
    refine x_gen (fun v1 ev1 => ?_)
    have qv1 : (0 : Int) ≤ v1 ∧ v1 ≤ (7 : Int) := by
      rw [ev1]
      exact hH.rF (k := 0) (i := 25) rfl rfl
    refine x_icmp_ge (tgt := 46) C dX12_menOf_9 (by decide) ⟨by omega, by omega⟩ ⟨by omega, by omega⟩ (fun h2 => ?_) (fun h2 => ?_)
    · refine x_iload_n (i := 2) C dX12_menOf_46 rfl rfl ?_
      exact x_iret C hQ dX12_menOf_47 (⟨rfl, _, rfl, by rw [hv, show menN X = i.toNat by unfold menN; omega]⟩)
    · refine x_iload_n (i := 2) C dX12_menOf_12 rfl rfl ?_
      refine x_aload_n (i := 0) C dX12_menOf_13 rfl rfl ?_
      refine x_getRs (r := 11) C fkM_X12_41 (nlt rfl) rfl (HG.rR hH (k := 0) (i := 28) rfl rfl) dX12_menOf_14 ?_
      refine x_iload_n (i := 3) C dX12_menOf_17 rfl rfl ?_
      refine x_iald C (nlt rfl) rfl rfl (nle rfl) (by omega) (by omega) dX12_menOf_18 ?_
      refine x_gen (fun v3 ev3 => ?_)
      have qv3 : (0 : Int) ≤ v3 ∧ v3 ≤ (1 : Int) := by
        rw [ev3]
        exact hH.rA (k := 11) (n := 7) (p := (0, 1)) (nlt rfl) rfl (by decide +kernel) (by omega)
      refine x_iload_n (i := 1) C dX12_menOf_19 rfl rfl ?_
      refine x_icmp_ne (tgt := 37) C dX12_menOf_20 (by decide) ⟨by omega, by omega⟩ ⟨by omega, by omega⟩ (fun h4 => ?_) (fun h4 => ?_)
      · refine x_iconst C dX12_menOf_37 ?_
        refine x_iadd C dX12_menOf_38 ?_
        refine x_gen (fun v5 ev5 => ?_)
        refine x_istore_n (i := 2) (lv' := [(2, .int (iI (v5))), (3, .int (iI (i))), (0, .ref 0), (1, .int (iI (sd)))]) C dX12_menOf_39 rfl (nlt rfl) rfl ?_
        refine x_iinc (lv' := [(3, .int (iI (i + 1))), (2, .int (iI (v5))), (0, .ref 0), (1, .int (iI (sd)))]) C dX12_menOf_40 rfl (nlt rfl) rfl ?_
        refine x_goto (tgt := 4) C dX12_menOf_43 (by decide) ?_
        exact ih _ _ (by omega) (by omega) (by omega) (by first | (rw [cntM_y (by omega) (by omega) (by rw [Nat.zero_add]; omega)]; omega) | (rw [cntM_n (by omega) (by first | (left; omega) | (right; rw [Nat.zero_add]; omega))]; omega))
      · refine x_aload_n (i := 0) C dX12_menOf_23 rfl rfl ?_
        refine x_getRs (r := 12) C fkM_X12_44 (nlt rfl) rfl (HG.rR hH (k := 0) (i := 29) rfl rfl) dX12_menOf_24 ?_
        refine x_iload_n (i := 3) C dX12_menOf_27 rfl rfl ?_
        refine x_iald C (nlt rfl) rfl rfl (nle rfl) (by omega) (by omega) dX12_menOf_28 ?_
        refine x_gen (fun v6 ev6 => ?_)
        have qv6 : ((-1) : Int) ≤ v6 ∧ v6 ≤ (35 : Int) := by
          rw [ev6]
          exact hH.rA (k := 12) (n := 7) (p := ((-1), 35)) (nlt rfl) rfl (by decide +kernel) (by omega)
        refine x_iconst C dX12_menOf_29 ?_
        refine x_icmp_eq (tgt := 37) C dX12_menOf_30 (by decide) ⟨by omega, by omega⟩ ⟨by omega, by omega⟩ (fun h7 => ?_) (fun h7 => ?_)
        · refine x_iconst C dX12_menOf_37 ?_
          refine x_iadd C dX12_menOf_38 ?_
          refine x_gen (fun v8 ev8 => ?_)
          refine x_istore_n (i := 2) (lv' := [(2, .int (iI (v8))), (3, .int (iI (i))), (0, .ref 0), (1, .int (iI (sd)))]) C dX12_menOf_39 rfl (nlt rfl) rfl ?_
          refine x_iinc (lv' := [(3, .int (iI (i + 1))), (2, .int (iI (v8))), (0, .ref 0), (1, .int (iI (sd)))]) C dX12_menOf_40 rfl (nlt rfl) rfl ?_
          refine x_goto (tgt := 4) C dX12_menOf_43 (by decide) ?_
          exact ih _ _ (by omega) (by omega) (by omega) (by first | (rw [cntM_y (by omega) (by omega) (by rw [Nat.zero_add]; omega)]; omega) | (rw [cntM_n (by omega) (by first | (left; omega) | (right; rw [Nat.zero_add]; omega))]; omega))
        · refine x_iconst C dX12_menOf_33 ?_
          refine x_goto (tgt := 38) C dX12_menOf_34 (by decide) ?_
          refine x_iadd C dX12_menOf_38 ?_
          refine x_gen (fun v9 ev9 => ?_)
          refine x_istore_n (i := 2) (lv' := [(2, .int (iI (v9))), (3, .int (iI (i))), (0, .ref 0), (1, .int (iI (sd)))]) C dX12_menOf_39 rfl (nlt rfl) rfl ?_
          refine x_iinc (lv' := [(3, .int (iI (i + 1))), (2, .int (iI (v9))), (0, .ref 0), (1, .int (iI (sd)))]) C dX12_menOf_40 rfl (nlt rfl) rfl ?_
          refine x_goto (tgt := 4) C dX12_menOf_43 (by decide) ?_
          exact ih _ _ (by omega) (by omega) (by omega) (by first | (rw [cntM_y (by omega) (by omega) (by rw [Nat.zero_add]; omega)]; omega) | (rw [cntM_n (by omega) (by first | (left; omega) | (right; rw [Nat.zero_add]; omega))]; omega))
set_option maxHeartbeats 4000000 in
set_option maxRecDepth 100000 in
theorem q_menOf {D : va_G} {ad : Nat → Nat} {cA : Nat → ClassId} {X : XT} {sd : Int} (hH : HG vM X) (s0 : 0 ≤ sd) (s1 : sd ≤ 1) : MetX (wM D ad cA) yX12_menOf cX12_menOf 4 (some .int) 0 0 [.ref 0, .int (iI (sd))] X (fun r X' => X' = X ∧ ∃ u : Int, r = some (.int (iI u)) ∧ u = cntM 12 0 sd X (menN X)) := by
  have hm : (0 : Int) ≤ X.1 0 25 ∧ X.1 0 25 ≤ (7 : Int) := hH.rF (k := 0) (i := 25) rfl rfl
  refine MetX.mk (own := RX12) (by decide +kernel) rfl (nle rfl) (fun E C hQ => ?_)
  refine Wx_lv (lv' := [(0, .ref 0), (1, .int (iI (sd)))]) rfl ?_
  refine x_iconst C dX12_menOf_0 ?_
  refine x_istore_n (i := 2) (lv' := [(2, .int (iI (0))), (0, .ref 0), (1, .int (iI (sd)))]) C dX12_menOf_1 rfl (nlt rfl) rfl ?_
  refine x_iconst C dX12_menOf_2 ?_
  refine x_istore_n (i := 3) (lv' := [(3, .int (iI (0))), (2, .int (iI (0))), (0, .ref 0), (1, .int (iI (sd)))]) C dX12_menOf_3 rfl (nlt rfl) rfl ?_
  exact lq_menOf hH s0 s1 C hQ 700 0 0 (by omega) (by omega) (by omega) rfl
theorem stM_0 {s : Int} {X : XT} (h : cntM 12 0 s X (menN X) = 0) : stM s X = 0 := by
  unfold stM
  rw [if_pos h]
theorem stM_1 {s : Int} {X : XT} (h : cntM 12 0 s X (menN X) ≠ 0) : stM s X = 1 := by
  unfold stM
  rw [if_neg h]
set_option maxRecDepth 10000 in
theorem t_M_125 {D : va_G} {ad : Nat → Nat} {cA : Nat → ClassId} : CTR mtM vM gM (wM D ad cA) k_M_125 := by
  intro g X hpre
  obtain ⟨h00, hei, hel, hdl, hH, hE⟩ := hpre
  have h0 : (0 : Int) ≤ g.1 0 ∧ g.1 0 ≤ (0 : Int) := hei 0 _ rfl
  have h1 : (0 : Int) ≤ g.1 1 ∧ g.1 1 ≤ (1 : Int) := hei 1 _ rfl
  have h2 : (0 : Int) ≤ g.1 2 ∧ g.1 2 ≤ (1 : Int) := hei 2 _ rfl
  have h3 : (0 : Int) ≤ g.1 3 ∧ g.1 3 ≤ (1 : Int) := hei 3 _ rfl
  have e0 : stM 0 X = g.1 2 + 0 := gh_at rfl (hdl ((900, 0), (0, 2, 0)) (.head _))
  have e1 : stM 1 X = g.1 3 + 0 := gh_at rfl (hdl ((901, 0), (0, 3, 0)) (.tail _ (.head _)))
  refine MetX.imp (fun r X1 hp => ?_) (q_menOf (X := X) (sd := g.1 1 + 0) hH (by omega) (by omega))
  obtain ⟨rfl, u, rfl, hu⟩ := hp
  have hb := (cntM_bd (a := 12) (o := 0) (s := g.1 1 + 0) (X := X1) (menN X1))
  have hb2 : menN X1 ≤ 7 := Nat.min_le_right _ _
  rcases (show g.1 1 + 0 = 0 ∨ g.1 1 + 0 = 1 by omega) with sz | sz
  · rw [sz] at hu hb
    by_cases hz : u = 0
    · have hs := stM_0 (s := 0) (X := X1) (by omega)
      exact (altM_mk 0 [u] rfl (ei_cons ⟨by show (0 : Int) ≤ g.1 0; omega, by show g.1 0 ≤ (0 : Int); omega⟩ (ei_cons ⟨by show (0 : Int) ≤ g.1 1; omega, by show g.1 1 ≤ (0 : Int); omega⟩ (ei_cons ⟨by show (0 : Int) ≤ g.1 2; omega, by show g.1 2 ≤ (0 : Int); omega⟩ (ei_cons ⟨by show (0 : Int) ≤ g.1 3; omega, by show g.1 3 ≤ (1 : Int); omega⟩ (ei_cons ⟨by show (0 : Int) ≤ u; omega, by show u ≤ (0 : Int); omega⟩ ei_nil))))) el_nil (res_v rfl) (dl_cons (gh_mk rfl (by show stM 0 X1 = g.1 2 + 0; omega)) (dl_cons (gh_mk rfl (by show stM 1 X1 = g.1 3 + 0; omega)) dl_nil)) gd_nil hH hE FR.rf)
    · have hs := stM_1 (s := 0) (X := X1) (by omega)
      exact (altM_mk 2 [u] rfl (ei_cons ⟨by show (0 : Int) ≤ g.1 0; omega, by show g.1 0 ≤ (0 : Int); omega⟩ (ei_cons ⟨by show (0 : Int) ≤ g.1 1; omega, by show g.1 1 ≤ (0 : Int); omega⟩ (ei_cons ⟨by show (1 : Int) ≤ g.1 2; omega, by show g.1 2 ≤ (1 : Int); omega⟩ (ei_cons ⟨by show (0 : Int) ≤ g.1 3; omega, by show g.1 3 ≤ (1 : Int); omega⟩ (ei_cons ⟨by show (1 : Int) ≤ u; omega, by show u ≤ (7 : Int); omega⟩ ei_nil))))) el_nil (res_v rfl) (dl_cons (gh_mk rfl (by show stM 0 X1 = g.1 2 + 0; omega)) (dl_cons (gh_mk rfl (by show stM 1 X1 = g.1 3 + 0; omega)) dl_nil)) gd_nil hH hE FR.rf)
  · rw [sz] at hu hb
    by_cases hz : u = 0
    · have hs := stM_0 (s := 1) (X := X1) (by omega)
      exact (altM_mk 1 [u] rfl (ei_cons ⟨by show (0 : Int) ≤ g.1 0; omega, by show g.1 0 ≤ (0 : Int); omega⟩ (ei_cons ⟨by show (1 : Int) ≤ g.1 1; omega, by show g.1 1 ≤ (1 : Int); omega⟩ (ei_cons ⟨by show (0 : Int) ≤ g.1 2; omega, by show g.1 2 ≤ (1 : Int); omega⟩ (ei_cons ⟨by show (0 : Int) ≤ g.1 3; omega, by show g.1 3 ≤ (0 : Int); omega⟩ (ei_cons ⟨by show (0 : Int) ≤ u; omega, by show u ≤ (0 : Int); omega⟩ ei_nil))))) el_nil (res_v rfl) (dl_cons (gh_mk rfl (by show stM 0 X1 = g.1 2 + 0; omega)) (dl_cons (gh_mk rfl (by show stM 1 X1 = g.1 3 + 0; omega)) dl_nil)) gd_nil hH hE FR.rf)
    · have hs := stM_1 (s := 1) (X := X1) (by omega)
      exact (altM_mk 3 [u] rfl (ei_cons ⟨by show (0 : Int) ≤ g.1 0; omega, by show g.1 0 ≤ (0 : Int); omega⟩ (ei_cons ⟨by show (1 : Int) ≤ g.1 1; omega, by show g.1 1 ≤ (1 : Int); omega⟩ (ei_cons ⟨by show (0 : Int) ≤ g.1 2; omega, by show g.1 2 ≤ (1 : Int); omega⟩ (ei_cons ⟨by show (1 : Int) ≤ g.1 3; omega, by show g.1 3 ≤ (1 : Int); omega⟩ (ei_cons ⟨by show (1 : Int) ≤ u; omega, by show u ≤ (7 : Int); omega⟩ ei_nil))))) el_nil (res_v rfl) (dl_cons (gh_mk rfl (by show stM 0 X1 = g.1 2 + 0; omega)) (dl_cons (gh_mk rfl (by show stM 1 X1 = g.1 3 + 0; omega)) dl_nil)) gd_nil hH hE FR.rf)
set_option maxHeartbeats 4000000 in
set_option maxRecDepth 100000 in
theorem q_isOver {D : va_G} {ad : Nat → Nat} {cA : Nat → ClassId} {X : XT} (hH : HG vM X) : MetX (wM D ad cA) yX12_isOver cX12_isOver 1 (some .boolean) 1 23 [.ref 0] X (fun r X' => X' = X ∧ ∃ u : Int, r = some (.int (iI u)) ∧ ((u = 0 ∧ cntM 12 0 0 X (menN X) ≠ 0 ∧ cntM 12 0 1 X (menN X) ≠ 0) ∨ (u = 1 ∧ (cntM 12 0 0 X (menN X) = 0 ∨ cntM 12 0 1 X (menN X) = 0)))) := by
  have b0 := cntM_bd (a := 12) (o := 0) (s := 0) (X := X) (menN X)
  have b1 := cntM_bd (a := 12) (o := 0) (s := 1) (X := X) (menN X)
  have b2 : menN X ≤ 7 := Nat.min_le_right _ _
  refine MetX.mk (own := RX12) (by decide +kernel) rfl (nle rfl) (fun E C hQ => ?_)
  refine Wx_lv (lv' := [(0, .ref 0)]) rfl ?_
  refine x_aload_n (i := 0) C dX12_isOver_0 rfl rfl ?_
  refine x_iconst C dX12_isOver_1 ?_
  refine x_callV (As := [.int (iI (0))]) C (by exact (q_menOf (sd := 0) hH (by omega) (by omega))) ckX12_439 im_X12_menOf se_X12_menOf (nlt rfl) rfl rfl rfl rfl (nle rfl) (by exact ⟨nle rfl, nle rfl⟩) dX12_isOver_2 ?_
  rintro _ Xv1 ⟨hxv1, v1, rfl, ev1⟩
  rw [hxv1]
  refine Wx_st (st' := [.int (iI (v1))]) rfl ?_
  refine x_if_eq (tgt := 16) C dX12_isOver_5 (by decide) ⟨by omega, by omega⟩ (fun h2 => ?_) (fun h2 => ?_)
  · refine x_iconst C dX12_isOver_16 ?_
    refine x_goto (tgt := 21) C dX12_isOver_17 (by decide) ?_
    exact x_zret C hQ (by omega) dX12_isOver_21 (⟨rfl, _, rfl, by omega⟩)
  · refine x_aload_n (i := 0) C dX12_isOver_8 rfl rfl ?_
    refine x_iconst C dX12_isOver_9 ?_
    refine x_callV (As := [.int (iI (1))]) C (by exact (q_menOf (sd := 1) hH (by omega) (by omega))) ckX12_439 im_X12_menOf se_X12_menOf (nlt rfl) rfl rfl rfl rfl (nle rfl) (by exact ⟨nle rfl, nle rfl⟩) dX12_isOver_10 ?_
    rintro _ Xv3 ⟨hxv3, v3, rfl, ev3⟩
    rw [hxv3]
    refine Wx_st (st' := [.int (iI (v3))]) rfl ?_
    refine x_if_ne (tgt := 20) C dX12_isOver_13 (by decide) ⟨by omega, by omega⟩ (fun h4 => ?_) (fun h4 => ?_)
    · refine x_iconst C dX12_isOver_20 ?_
      exact x_zret C hQ (by omega) dX12_isOver_21 (⟨rfl, _, rfl, by omega⟩)
    · refine x_iconst C dX12_isOver_16 ?_
      refine x_goto (tgt := 21) C dX12_isOver_17 (by decide) ?_
      exact x_zret C hQ (by omega) dX12_isOver_21 (⟨rfl, _, rfl, by omega⟩)
set_option maxRecDepth 10000 in
theorem t_M_109 {D : va_G} {ad : Nat → Nat} {cA : Nat → ClassId} : CTR mtM vM gM (wM D ad cA) k_M_109 := by
  intro g X hpre
  obtain ⟨h00, hei, hel, hdl, hH, hE⟩ := hpre
  have h0 : (0 : Int) ≤ g.1 0 ∧ g.1 0 ≤ (0 : Int) := hei 0 _ rfl
  have h1 : (0 : Int) ≤ g.1 1 ∧ g.1 1 ≤ (1 : Int) := hei 1 _ rfl
  have h2 : (0 : Int) ≤ g.1 2 ∧ g.1 2 ≤ (1 : Int) := hei 2 _ rfl
  have e0 : stM 0 X = g.1 1 + 0 := gh_at rfl (hdl ((900, 0), (0, 1, 0)) (.head _))
  have e1 : stM 1 X = g.1 2 + 0 := gh_at rfl (hdl ((901, 0), (0, 2, 0)) (.tail _ (.head _)))
  refine MetX.imp (fun r X1 hp => ?_) (q_isOver (X := X) hH)
  obtain ⟨rfl, u, rfl, hu⟩ := hp
  rcases hu with ⟨rfl, u1, u2⟩ | ⟨rfl, u1 | u1⟩
  · have s0 := stM_1 u1
    have s1 := stM_1 u2
    exact (altM_mk 0 [0] rfl (ei_cons ⟨by show (0 : Int) ≤ g.1 0; omega, by show g.1 0 ≤ (0 : Int); omega⟩ (ei_cons ⟨by show (1 : Int) ≤ g.1 1; omega, by show g.1 1 ≤ (1 : Int); omega⟩ (ei_cons ⟨by show (1 : Int) ≤ g.1 2; omega, by show g.1 2 ≤ (1 : Int); omega⟩ (ei_cons ⟨by show (0 : Int) ≤ 0; omega, by show 0 ≤ (0 : Int); omega⟩ ei_nil)))) el_nil (by rfl) (dl_cons (gh_mk rfl (by show stM 0 X1 = g.1 1 + 0; omega)) (dl_cons (gh_mk rfl (by show stM 1 X1 = g.1 2 + 0; omega)) dl_nil)) gd_nil hH hE FR.rf)
  · have s0 := stM_0 u1
    exact (altM_mk 1 [1] rfl (ei_cons ⟨by show (0 : Int) ≤ g.1 0; omega, by show g.1 0 ≤ (0 : Int); omega⟩ (ei_cons ⟨by show (0 : Int) ≤ g.1 1; omega, by show g.1 1 ≤ (0 : Int); omega⟩ (ei_cons ⟨by show (0 : Int) ≤ g.1 2; omega, by show g.1 2 ≤ (1 : Int); omega⟩ (ei_cons ⟨by show (1 : Int) ≤ 1; omega, by show 1 ≤ (1 : Int); omega⟩ ei_nil)))) el_nil (by rfl) (dl_cons (gh_mk rfl (by show stM 0 X1 = g.1 1 + 0; omega)) (dl_cons (gh_mk rfl (by show stM 1 X1 = g.1 2 + 0; omega)) dl_nil)) gd_nil hH hE FR.rf)
  · have s0 := stM_0 u1
    exact (altM_mk 2 [1] rfl (ei_cons ⟨by show (0 : Int) ≤ g.1 0; omega, by show g.1 0 ≤ (0 : Int); omega⟩ (ei_cons ⟨by show (0 : Int) ≤ g.1 1; omega, by show g.1 1 ≤ (1 : Int); omega⟩ (ei_cons ⟨by show (0 : Int) ≤ g.1 2; omega, by show g.1 2 ≤ (0 : Int); omega⟩ (ei_cons ⟨by show (1 : Int) ≤ 1; omega, by show 1 ≤ (1 : Int); omega⟩ ei_nil)))) el_nil (by rfl) (dl_cons (gh_mk rfl (by show stM 0 X1 = g.1 1 + 0; omega)) (dl_cons (gh_mk rfl (by show stM 1 X1 = g.1 2 + 0; omega)) dl_nil)) gd_nil hH hE FR.rf)
set_option maxHeartbeats 4000000 in
set_option maxRecDepth 100000 in
theorem lq_nextMan {D : va_G} {ad : Nat → Nat} {cA : Nat → ClassId} {X : XT} {sd : Int} (hH : HG vM X) (s0 : 0 ≤ sd) (s1 : sd ≤ 1) (m6 : X.1 0 25 ≤ 6) {E : ET} {rm : Room} (C : CX E (wM D ad cA) cX12_nextMan 5 RX12 (some .int) rm) (hQ : EQ E (wM D ad cA) (fun r X' => X' = X ∧ ∃ u : Int, r = some (.int (iI u)) ∧ (u = -1 ∨ (0 ≤ u ∧ u ≤ 5 ∧ X.1 12 u.toNat ≠ -1)) ∧ (u = -1 → cntM 12 0 sd X (menN X) = 0))) : ∀ (n : Nat) (a : Int) (b : Int) (i : Int), i + 1 < n → -1 ≤ i → i < X.1 0 25 → (a = -1 ∨ (0 ≤ a ∧ a ≤ 5 ∧ X.1 12 a.toNat ≠ -1)) → (b = -1 ∨ (0 ≤ b ∧ b ≤ 5 ∧ X.1 12 b.toNat ≠ -1)) → (a = -1 → cntM 12 0 sd X (i + 1).toNat = cntM 12 0 sd X (menN X)) → Wx E (wM D ad cA) 5 (PX (wM D ad cA) X) 12 [(4, .int (iI (i))), (3, .int (iI (b))), (2, .int (iI (a))), (0, .ref 0), (1, .int (iI (sd)))] [] := by
  intro n
  induction n with
  | zero => intro a b i hn i0 i1 ha hb hc; exfalso; omega
  | succ n ih =>
    intro a b i hn i0 i1 ha hb hc
    have hm : (0 : Int) ≤ X.1 0 25 ∧ X.1 0 25 ≤ (7 : Int) := hH.rF (k := 0) (i := 25) rfl rfl
    refine x_iload C dX12_nextMan_12 rfl ?_
    refine x_if_lt (tgt := 66) C dX12_nextMan_14 (by decide) ⟨by omega, by omega⟩ (fun h1 => ?_) (fun h1 => ?_)
    · refine x_iload_n (i := 3) C dX12_nextMan_66 rfl rfl ?_
      refine x_iconst C dX12_nextMan_67 ?_
      refine x_icmp_eq (tgt := 75) C dX12_nextMan_68 (by decide) ⟨by omega, by omega⟩ ⟨by omega, by omega⟩ (fun h2 => ?_) (fun h2 => ?_)
      · refine x_iload_n (i := 2) C dX12_nextMan_75 rfl rfl ?_
        exact x_iret C hQ dX12_nextMan_76 (⟨rfl, _, rfl, by omega, fun hu => by have t := hc (by omega); rw [show i = -1 by omega] at t; exact t.symm⟩)
      · refine x_iload_n (i := 3) C dX12_nextMan_71 rfl rfl ?_
        refine x_goto (tgt := 76) C dX12_nextMan_72 (by decide) ?_
        exact x_iret C hQ dX12_nextMan_76 (⟨rfl, _, rfl, by omega, fun hu => by have t := hc (by omega); rw [show i = -1 by omega] at t; exact t.symm⟩)
    · refine x_aload_n (i := 0) C dX12_nextMan_17 rfl rfl ?_
      refine x_getRs (r := 11) C fkM_X12_41 (nlt rfl) rfl (HG.rR hH (k := 0) (i := 28) rfl rfl) dX12_nextMan_18 ?_
      refine x_iload C dX12_nextMan_21 rfl ?_
      refine x_iald C (nlt rfl) rfl rfl (nle rfl) (by omega) (by omega) dX12_nextMan_23 ?_
      refine x_gen (fun v3 ev3 => ?_)
      have qv3 : (0 : Int) ≤ v3 ∧ v3 ≤ (1 : Int) := by
        rw [ev3]
        exact hH.rA (k := 11) (n := 7) (p := (0, 1)) (nlt rfl) rfl (by decide +kernel) (by omega)
      refine x_iload_n (i := 1) C dX12_nextMan_24 rfl rfl ?_
      refine x_icmp_ne (tgt := 60) C dX12_nextMan_25 (by decide) ⟨by omega, by omega⟩ ⟨by omega, by omega⟩ (fun h4 => ?_) (fun h4 => ?_)
      · refine x_iinc (lv' := [(4, .int (iI (i + (-1)))), (3, .int (iI (b))), (2, .int (iI (a))), (0, .ref 0), (1, .int (iI (sd)))]) C dX12_nextMan_60 rfl (nlt rfl) rfl ?_
        refine x_goto (tgt := 12) C dX12_nextMan_63 (by decide) ?_
        exact ih _ _ _ (by omega) (by omega) (by omega) (by omega) (by omega) (by first | omega | (have t := cntM_n (a := 12) (o := 0) (s := sd) (X := X) (i := i) (by omega) (by first | (left; omega) | (right; rw [Nat.zero_add]; omega)); intro ha0; rw [show i + (-1) + 1 = i by omega]; have := hc (by omega); omega))
      · refine x_aload_n (i := 0) C dX12_nextMan_28 rfl rfl ?_
        refine x_getRs (r := 12) C fkM_X12_44 (nlt rfl) rfl (HG.rR hH (k := 0) (i := 29) rfl rfl) dX12_nextMan_29 ?_
        refine x_iload C dX12_nextMan_32 rfl ?_
        refine x_iald C (nlt rfl) rfl rfl (nle rfl) (by omega) (by omega) dX12_nextMan_34 ?_
        refine x_gen (fun v5 ev5 => ?_)
        have qv5 : ((-1) : Int) ≤ v5 ∧ v5 ≤ (35 : Int) := by
          rw [ev5]
          exact hH.rA (k := 12) (n := 7) (p := ((-1), 35)) (nlt rfl) rfl (by decide +kernel) (by omega)
        refine x_iconst C dX12_nextMan_35 ?_
        refine x_icmp_eq (tgt := 60) C dX12_nextMan_36 (by decide) ⟨by omega, by omega⟩ ⟨by omega, by omega⟩ (fun h6 => ?_) (fun h6 => ?_)
        · refine x_iinc (lv' := [(4, .int (iI (i + (-1)))), (3, .int (iI (b))), (2, .int (iI (a))), (0, .ref 0), (1, .int (iI (sd)))]) C dX12_nextMan_60 rfl (nlt rfl) rfl ?_
          refine x_goto (tgt := 12) C dX12_nextMan_63 (by decide) ?_
          exact ih _ _ _ (by omega) (by omega) (by omega) (by omega) (by omega) (by first | omega | (have t := cntM_n (a := 12) (o := 0) (s := sd) (X := X) (i := i) (by omega) (by first | (left; omega) | (right; rw [Nat.zero_add]; omega)); intro ha0; rw [show i + (-1) + 1 = i by omega]; have := hc (by omega); omega))
        · refine x_iload C dX12_nextMan_39 rfl ?_
          refine x_istore_n (i := 2) (lv' := [(2, .int (iI (i))), (4, .int (iI (i))), (3, .int (iI (b))), (0, .ref 0), (1, .int (iI (sd)))]) C dX12_nextMan_41 rfl (nlt rfl) rfl ?_
          refine x_iload C dX12_nextMan_42 rfl ?_
          refine x_aload_n (i := 0) C dX12_nextMan_44 rfl rfl ?_
          refine x_getRs (r := 13) C fkM_X12_47 (nlt rfl) rfl (HG.rR hH (k := 0) (i := 30) rfl rfl) dX12_nextMan_45 ?_
          refine x_iload_n (i := 1) C dX12_nextMan_48 rfl rfl ?_
          refine x_iald C (nlt rfl) rfl rfl (nle rfl) (by omega) (by omega) dX12_nextMan_49 ?_
          refine x_gen (fun v7 ev7 => ?_)
          have qv7 : ((-1) : Int) ≤ v7 ∧ v7 ≤ (5 : Int) := by
            rw [ev7]
            exact hH.rA (k := 13) (n := 2) (p := ((-1), 5)) (nlt rfl) rfl (by decide +kernel) (by omega)
          refine x_icmp_le (tgt := 58) C dX12_nextMan_50 (by decide) ⟨by omega, by omega⟩ ⟨by omega, by omega⟩ (fun h8 => ?_) (fun h8 => ?_)
          · refine x_iload_n (i := 3) C dX12_nextMan_58 rfl rfl ?_
            refine x_istore_n (i := 3) (lv' := [(3, .int (iI (b))), (2, .int (iI (i))), (4, .int (iI (i))), (0, .ref 0), (1, .int (iI (sd)))]) C dX12_nextMan_59 rfl (nlt rfl) rfl ?_
            refine x_iinc (lv' := [(4, .int (iI (i + (-1)))), (3, .int (iI (b))), (2, .int (iI (i))), (0, .ref 0), (1, .int (iI (sd)))]) C dX12_nextMan_60 rfl (nlt rfl) rfl ?_
            refine x_goto (tgt := 12) C dX12_nextMan_63 (by decide) ?_
            exact ih _ _ _ (by omega) (by omega) (by omega) (by omega) (by omega) (by first | omega | (have t := cntM_n (a := 12) (o := 0) (s := sd) (X := X) (i := i) (by omega) (by first | (left; omega) | (right; rw [Nat.zero_add]; omega)); intro ha0; rw [show i + (-1) + 1 = i by omega]; have := hc (by omega); omega))
          · refine x_iload C dX12_nextMan_53 rfl ?_
            refine x_goto (tgt := 59) C dX12_nextMan_55 (by decide) ?_
            refine x_istore_n (i := 3) (lv' := [(3, .int (iI (i))), (2, .int (iI (i))), (4, .int (iI (i))), (0, .ref 0), (1, .int (iI (sd)))]) C dX12_nextMan_59 rfl (nlt rfl) rfl ?_
            refine x_iinc (lv' := [(4, .int (iI (i + (-1)))), (3, .int (iI (i))), (2, .int (iI (i))), (0, .ref 0), (1, .int (iI (sd)))]) C dX12_nextMan_60 rfl (nlt rfl) rfl ?_
            refine x_goto (tgt := 12) C dX12_nextMan_63 (by decide) ?_
            exact ih _ _ _ (by omega) (by omega) (by omega) (by omega) (by omega) (by first | omega | (have t := cntM_n (a := 12) (o := 0) (s := sd) (X := X) (i := i) (by omega) (by first | (left; omega) | (right; rw [Nat.zero_add]; omega)); intro ha0; rw [show i + (-1) + 1 = i by omega]; have := hc (by omega); omega))
set_option maxHeartbeats 4000000 in
set_option maxRecDepth 100000 in
theorem q_nextMan {D : va_G} {ad : Nat → Nat} {cA : Nat → ClassId} {X : XT} {sd : Int} (hH : HG vM X) (s0 : 0 ≤ sd) (s1 : sd ≤ 1) (m6 : X.1 0 25 ≤ 6) : MetX (wM D ad cA) yX12_nextMan cX12_nextMan 5 (some .int) 0 0 [.ref 0, .int (iI (sd))] X (fun r X' => X' = X ∧ ∃ u : Int, r = some (.int (iI u)) ∧ (u = -1 ∨ (0 ≤ u ∧ u ≤ 5 ∧ X.1 12 u.toNat ≠ -1)) ∧ (u = -1 → cntM 12 0 sd X (menN X) = 0)) := by
  have hm : (0 : Int) ≤ X.1 0 25 ∧ X.1 0 25 ≤ (7 : Int) := hH.rF (k := 0) (i := 25) rfl rfl
  refine MetX.mk (own := RX12) (by decide +kernel) rfl (nle rfl) (fun E C hQ => ?_)
  refine Wx_lv (lv' := [(0, .ref 0), (1, .int (iI (sd)))]) rfl ?_
  refine x_iconst C dX12_nextMan_0 ?_
  refine x_istore_n (i := 2) (lv' := [(2, .int (iI ((-1)))), (0, .ref 0), (1, .int (iI (sd)))]) C dX12_nextMan_1 rfl (nlt rfl) rfl ?_
  refine x_iconst C dX12_nextMan_2 ?_
  refine x_istore_n (i := 3) (lv' := [(3, .int (iI ((-1)))), (2, .int (iI ((-1)))), (0, .ref 0), (1, .int (iI (sd)))]) C dX12_nextMan_3 rfl (nlt rfl) rfl ?_
  refine x_aload_n (i := 0) C dX12_nextMan_4 rfl rfl ?_
  refine x_getI C fkM_X12_287 (nlt rfl) rfl dX12_nextMan_5 ?_
  refine x_gen (fun v1 ev1 => ?_)
  have qv1 : (0 : Int) ≤ v1 ∧ v1 ≤ (7 : Int) := by
    rw [ev1]
    exact hH.rF (k := 0) (i := 25) rfl rfl
  refine x_iconst C dX12_nextMan_8 ?_
  refine x_isub C dX12_nextMan_9 ?_
  refine x_gen (fun v2 ev2 => ?_)
  refine x_istore (lv' := [(4, .int (iI (v2))), (3, .int (iI ((-1)))), (2, .int (iI ((-1)))), (0, .ref 0), (1, .int (iI (sd)))]) C dX12_nextMan_10 (nlt rfl) rfl ?_
  refine lq_nextMan hH s0 s1 m6 C hQ 700 (-1) (-1) _ (by omega) (by omega) (by omega) (.inl rfl) (.inl rfl) (fun _ => ?_)
  congr 1
  unfold menN
  omega
set_option maxRecDepth 10000 in
theorem t_M_112 {D : va_G} {ad : Nat → Nat} {cA : Nat → ClassId} : CTR mtM vM gM (wM D ad cA) k_M_112 := by
  intro g X hpre
  obtain ⟨h00, hei, hel, hdl, hH, hE⟩ := hpre
  have h0 : (0 : Int) ≤ g.1 0 ∧ g.1 0 ≤ (0 : Int) := hei 0 _ rfl
  have h1 : (0 : Int) ≤ g.1 1 ∧ g.1 1 ≤ (1 : Int) := hei 1 _ rfl
  have h2 : (0 : Int) ≤ g.1 2 ∧ g.1 2 ≤ (1 : Int) := hei 2 _ rfl
  have h3 : (0 : Int) ≤ g.1 3 ∧ g.1 3 ≤ (1 : Int) := hei 3 _ rfl
  have h4 : (0 : Int) ≤ g.1 4 ∧ g.1 4 ≤ (6 : Int) := hei 4 _ rfl
  have e0 : stM 0 X = g.1 2 + 0 := gh_at rfl (hdl ((900, 0), (0, 2, 0)) (.head _))
  have e1 : stM 1 X = g.1 3 + 0 := gh_at rfl (hdl ((901, 0), (0, 3, 0)) (.tail _ (.head _)))
  have m6 : X.1 0 25 = g.1 4 + 0 := (hdl ((0, 25), (0, 4, 0)) (.tail _ (.tail _ (.head _))))
  refine MetX.imp (fun r X1 hp => ?_) (q_nextMan (X := X) (sd := g.1 1 + 0) hH (by omega) (by omega) (by omega))
  obtain ⟨rfl, u, rfl, hu, hw⟩ := hp
  by_cases z0 : g.1 2 = 0
  · exact (altM_mk 6 [u] rfl (ei_cons ⟨by show (0 : Int) ≤ g.1 0; omega, by show g.1 0 ≤ (0 : Int); omega⟩ (ei_cons ⟨by show (0 : Int) ≤ g.1 1; omega, by show g.1 1 ≤ (1 : Int); omega⟩ (ei_cons ⟨by show (0 : Int) ≤ g.1 2; omega, by show g.1 2 ≤ (0 : Int); omega⟩ (ei_cons ⟨by show (0 : Int) ≤ g.1 3; omega, by show g.1 3 ≤ (1 : Int); omega⟩ (ei_cons ⟨by show (0 : Int) ≤ g.1 4; omega, by show g.1 4 ≤ (6 : Int); omega⟩ (ei_cons ⟨by show ((-1) : Int) ≤ u; omega, by show u ≤ (5 : Int); omega⟩ ei_nil)))))) el_nil (res_v rfl) (dl_cons (gh_mk rfl (by show stM 0 X1 = g.1 2 + 0; omega)) (dl_cons (gh_mk rfl (by show stM 1 X1 = g.1 3 + 0; omega)) dl_nil)) gd_nil hH hE FR.rf)
  by_cases z1 : g.1 3 = 0
  · exact (altM_mk 7 [u] rfl (ei_cons ⟨by show (0 : Int) ≤ g.1 0; omega, by show g.1 0 ≤ (0 : Int); omega⟩ (ei_cons ⟨by show (0 : Int) ≤ g.1 1; omega, by show g.1 1 ≤ (1 : Int); omega⟩ (ei_cons ⟨by show (0 : Int) ≤ g.1 2; omega, by show g.1 2 ≤ (1 : Int); omega⟩ (ei_cons ⟨by show (0 : Int) ≤ g.1 3; omega, by show g.1 3 ≤ (0 : Int); omega⟩ (ei_cons ⟨by show (0 : Int) ≤ g.1 4; omega, by show g.1 4 ≤ (6 : Int); omega⟩ (ei_cons ⟨by show ((-1) : Int) ≤ u; omega, by show u ≤ (5 : Int); omega⟩ ei_nil)))))) el_nil (res_v rfl) (dl_cons (gh_mk rfl (by show stM 0 X1 = g.1 2 + 0; omega)) (dl_cons (gh_mk rfl (by show stM 1 X1 = g.1 3 + 0; omega)) dl_nil)) gd_nil hH hE FR.rf)
  have hn : u ≠ -1 := by
    intro q
    have t := hw q
    rcases (show g.1 1 + 0 = 0 ∨ g.1 1 + 0 = 1 by omega) with sz | sz
    · rw [sz] at t
      have := stM_0 t
      omega
    · rw [sz] at t
      have := stM_0 t
      omega
  rcases hu with hu | ⟨u1, u2, u3⟩
  · exact absurd hu hn
  rcases (show u = 0 ∨ u = 1 ∨ u = 2 ∨ u = 3 ∨ u = 4 ∨ u = 5 by omega) with rfl | rfl | rfl | rfl | rfl | rfl
  · have hs : (-1 : Int) ≤ X1.1 12 0 ∧ X1.1 12 0 ≤ 35 := hH.rA (k := 12) (n := 7) (p := (-1, 35)) (nlt rfl) rfl (by decide +kernel) (by omega)
    have u4 : X1.1 12 0 ≠ -1 := u3
    exact (altM_mk 0 [0, (X1.1 12 0)] rfl (ei_cons ⟨by show (0 : Int) ≤ g.1 0; omega, by show g.1 0 ≤ (0 : Int); omega⟩ (ei_cons ⟨by show (0 : Int) ≤ g.1 1; omega, by show g.1 1 ≤ (1 : Int); omega⟩ (ei_cons ⟨by show (1 : Int) ≤ g.1 2; omega, by show g.1 2 ≤ (1 : Int); omega⟩ (ei_cons ⟨by show (1 : Int) ≤ g.1 3; omega, by show g.1 3 ≤ (1 : Int); omega⟩ (ei_cons ⟨by show (0 : Int) ≤ g.1 4; omega, by show g.1 4 ≤ (6 : Int); omega⟩ (ei_cons ⟨by show (0 : Int) ≤ 0; omega, by show 0 ≤ (0 : Int); omega⟩ (ei_cons ⟨by show (0 : Int) ≤ (X1.1 12 0); omega, by show (X1.1 12 0) ≤ (35 : Int); omega⟩ ei_nil))))))) el_nil (by rfl) (dl_cons (gh_mk rfl (by show stM 0 X1 = g.1 2 + 0; omega)) (dl_cons (gh_mk rfl (by show stM 1 X1 = g.1 3 + 0; omega)) (dl_cons (by show X1.1 12 0 = X1.1 12 0 + 0; omega) dl_nil))) gd_nil hH hE FR.rf)
  · have hs : (-1 : Int) ≤ X1.1 12 1 ∧ X1.1 12 1 ≤ 35 := hH.rA (k := 12) (n := 7) (p := (-1, 35)) (nlt rfl) rfl (by decide +kernel) (by omega)
    have u4 : X1.1 12 1 ≠ -1 := u3
    exact (altM_mk 1 [1, (X1.1 12 1)] rfl (ei_cons ⟨by show (0 : Int) ≤ g.1 0; omega, by show g.1 0 ≤ (0 : Int); omega⟩ (ei_cons ⟨by show (0 : Int) ≤ g.1 1; omega, by show g.1 1 ≤ (1 : Int); omega⟩ (ei_cons ⟨by show (1 : Int) ≤ g.1 2; omega, by show g.1 2 ≤ (1 : Int); omega⟩ (ei_cons ⟨by show (1 : Int) ≤ g.1 3; omega, by show g.1 3 ≤ (1 : Int); omega⟩ (ei_cons ⟨by show (0 : Int) ≤ g.1 4; omega, by show g.1 4 ≤ (6 : Int); omega⟩ (ei_cons ⟨by show (1 : Int) ≤ 1; omega, by show 1 ≤ (1 : Int); omega⟩ (ei_cons ⟨by show (0 : Int) ≤ (X1.1 12 1); omega, by show (X1.1 12 1) ≤ (35 : Int); omega⟩ ei_nil))))))) el_nil (by rfl) (dl_cons (gh_mk rfl (by show stM 0 X1 = g.1 2 + 0; omega)) (dl_cons (gh_mk rfl (by show stM 1 X1 = g.1 3 + 0; omega)) (dl_cons (by show X1.1 12 1 = X1.1 12 1 + 0; omega) dl_nil))) gd_nil hH hE FR.rf)
  · have hs : (-1 : Int) ≤ X1.1 12 2 ∧ X1.1 12 2 ≤ 35 := hH.rA (k := 12) (n := 7) (p := (-1, 35)) (nlt rfl) rfl (by decide +kernel) (by omega)
    have u4 : X1.1 12 2 ≠ -1 := u3
    exact (altM_mk 2 [2, (X1.1 12 2)] rfl (ei_cons ⟨by show (0 : Int) ≤ g.1 0; omega, by show g.1 0 ≤ (0 : Int); omega⟩ (ei_cons ⟨by show (0 : Int) ≤ g.1 1; omega, by show g.1 1 ≤ (1 : Int); omega⟩ (ei_cons ⟨by show (1 : Int) ≤ g.1 2; omega, by show g.1 2 ≤ (1 : Int); omega⟩ (ei_cons ⟨by show (1 : Int) ≤ g.1 3; omega, by show g.1 3 ≤ (1 : Int); omega⟩ (ei_cons ⟨by show (0 : Int) ≤ g.1 4; omega, by show g.1 4 ≤ (6 : Int); omega⟩ (ei_cons ⟨by show (2 : Int) ≤ 2; omega, by show 2 ≤ (2 : Int); omega⟩ (ei_cons ⟨by show (0 : Int) ≤ (X1.1 12 2); omega, by show (X1.1 12 2) ≤ (35 : Int); omega⟩ ei_nil))))))) el_nil (by rfl) (dl_cons (gh_mk rfl (by show stM 0 X1 = g.1 2 + 0; omega)) (dl_cons (gh_mk rfl (by show stM 1 X1 = g.1 3 + 0; omega)) (dl_cons (by show X1.1 12 2 = X1.1 12 2 + 0; omega) dl_nil))) gd_nil hH hE FR.rf)
  · have hs : (-1 : Int) ≤ X1.1 12 3 ∧ X1.1 12 3 ≤ 35 := hH.rA (k := 12) (n := 7) (p := (-1, 35)) (nlt rfl) rfl (by decide +kernel) (by omega)
    have u4 : X1.1 12 3 ≠ -1 := u3
    exact (altM_mk 3 [3, (X1.1 12 3)] rfl (ei_cons ⟨by show (0 : Int) ≤ g.1 0; omega, by show g.1 0 ≤ (0 : Int); omega⟩ (ei_cons ⟨by show (0 : Int) ≤ g.1 1; omega, by show g.1 1 ≤ (1 : Int); omega⟩ (ei_cons ⟨by show (1 : Int) ≤ g.1 2; omega, by show g.1 2 ≤ (1 : Int); omega⟩ (ei_cons ⟨by show (1 : Int) ≤ g.1 3; omega, by show g.1 3 ≤ (1 : Int); omega⟩ (ei_cons ⟨by show (0 : Int) ≤ g.1 4; omega, by show g.1 4 ≤ (6 : Int); omega⟩ (ei_cons ⟨by show (3 : Int) ≤ 3; omega, by show 3 ≤ (3 : Int); omega⟩ (ei_cons ⟨by show (0 : Int) ≤ (X1.1 12 3); omega, by show (X1.1 12 3) ≤ (35 : Int); omega⟩ ei_nil))))))) el_nil (by rfl) (dl_cons (gh_mk rfl (by show stM 0 X1 = g.1 2 + 0; omega)) (dl_cons (gh_mk rfl (by show stM 1 X1 = g.1 3 + 0; omega)) (dl_cons (by show X1.1 12 3 = X1.1 12 3 + 0; omega) dl_nil))) gd_nil hH hE FR.rf)
  · have hs : (-1 : Int) ≤ X1.1 12 4 ∧ X1.1 12 4 ≤ 35 := hH.rA (k := 12) (n := 7) (p := (-1, 35)) (nlt rfl) rfl (by decide +kernel) (by omega)
    have u4 : X1.1 12 4 ≠ -1 := u3
    exact (altM_mk 4 [4, (X1.1 12 4)] rfl (ei_cons ⟨by show (0 : Int) ≤ g.1 0; omega, by show g.1 0 ≤ (0 : Int); omega⟩ (ei_cons ⟨by show (0 : Int) ≤ g.1 1; omega, by show g.1 1 ≤ (1 : Int); omega⟩ (ei_cons ⟨by show (1 : Int) ≤ g.1 2; omega, by show g.1 2 ≤ (1 : Int); omega⟩ (ei_cons ⟨by show (1 : Int) ≤ g.1 3; omega, by show g.1 3 ≤ (1 : Int); omega⟩ (ei_cons ⟨by show (0 : Int) ≤ g.1 4; omega, by show g.1 4 ≤ (6 : Int); omega⟩ (ei_cons ⟨by show (4 : Int) ≤ 4; omega, by show 4 ≤ (4 : Int); omega⟩ (ei_cons ⟨by show (0 : Int) ≤ (X1.1 12 4); omega, by show (X1.1 12 4) ≤ (35 : Int); omega⟩ ei_nil))))))) el_nil (by rfl) (dl_cons (gh_mk rfl (by show stM 0 X1 = g.1 2 + 0; omega)) (dl_cons (gh_mk rfl (by show stM 1 X1 = g.1 3 + 0; omega)) (dl_cons (by show X1.1 12 4 = X1.1 12 4 + 0; omega) dl_nil))) gd_nil hH hE FR.rf)
  · have hs : (-1 : Int) ≤ X1.1 12 5 ∧ X1.1 12 5 ≤ 35 := hH.rA (k := 12) (n := 7) (p := (-1, 35)) (nlt rfl) rfl (by decide +kernel) (by omega)
    have u4 : X1.1 12 5 ≠ -1 := u3
    exact (altM_mk 5 [5, (X1.1 12 5)] rfl (ei_cons ⟨by show (0 : Int) ≤ g.1 0; omega, by show g.1 0 ≤ (0 : Int); omega⟩ (ei_cons ⟨by show (0 : Int) ≤ g.1 1; omega, by show g.1 1 ≤ (1 : Int); omega⟩ (ei_cons ⟨by show (1 : Int) ≤ g.1 2; omega, by show g.1 2 ≤ (1 : Int); omega⟩ (ei_cons ⟨by show (1 : Int) ≤ g.1 3; omega, by show g.1 3 ≤ (1 : Int); omega⟩ (ei_cons ⟨by show (0 : Int) ≤ g.1 4; omega, by show g.1 4 ≤ (6 : Int); omega⟩ (ei_cons ⟨by show (5 : Int) ≤ 5; omega, by show 5 ≤ (5 : Int); omega⟩ (ei_cons ⟨by show (0 : Int) ≤ (X1.1 12 5); omega, by show (X1.1 12 5) ≤ (35 : Int); omega⟩ ei_nil))))))) el_nil (by rfl) (dl_cons (gh_mk rfl (by show stM 0 X1 = g.1 2 + 0; omega)) (dl_cons (gh_mk rfl (by show stM 1 X1 = g.1 3 + 0; omega)) (dl_cons (by show X1.1 12 5 = X1.1 12 5 + 0; omega) dl_nil))) gd_nil hH hE FR.rf)
theorem kpM_1 {d : Nat} {X : XT} (h : cntM 44 (6 * d) 0 X (menK X) ≠ 0) (h' : cntM 44 (6 * d) 1 X (menK X) ≠ 0) : kpM d X = 1 := by
  unfold kpM
  rw [if_neg (fun q => q.elim h h')]
theorem kpM_n {d : Nat} {X : XT} (h : kpM d X = 1) : cntM 44 (6 * d) 0 X (menK X) ≠ 0 ∧ cntM 44 (6 * d) 1 X (menK X) ≠ 0 := by
  unfold kpM at h
  split at h
  · omega
  · omega
theorem stM_n {s : Int} {X : XT} (h : stM s X = 1) : cntM 12 0 s X (menN X) ≠ 0 := by
  unfold stM at h
  split at h
  · omega
  · omega
set_option maxHeartbeats 4000000 in
set_option maxRecDepth 100000 in
theorem lq_keepMen0 {D : va_G} {ad : Nat → Nat} {cA : Nat → ClassId} {X0 : XT} {E : ET} {rm : Room} (C : CX E (wM D ad cA) cX12_keepMen 3 RX12 none rm) (hQ : EQ E (wM D ad cA) (fun r X => r = none ∧ HG vM X ∧ FR (cMd k_M_181) X0 X ∧ (∀ j : Nat, (j : Int) < 6 → X.1 44 (6 * 0 + j) = X0.1 12 j))) : ∀ (n : Nat) (i : Int) (X : XT), 6 - i < n → 0 ≤ i → i ≤ 6 → HG vM X → FR (cMd k_M_181) X0 X → (∀ j : Nat, (j : Int) < i → X.1 44 (6 * 0 + j) = X0.1 12 j) → Wx E (wM D ad cA) 3 (PX (wM D ad cA) X) 2 [(2, .int (iI (i))), (0, .ref 0), (1, .int (iI (0)))] [] := by
  intro n
  induction n with
  | zero => intro i X hn i0 i1 hH hF hc; exfalso; omega
  | succ n ih =>
    intro i X hn i0 i1 hH hF hc
    refine x_iload_n (i := 2) C dX12_keepMen_2 rfl rfl ?_
    refine x_bipush C dX12_keepMen_3 (by decide) ?_
    refine x_icmp_ge (tgt := 31) C dX12_keepMen_5 (by decide) ⟨by omega, by omega⟩ ⟨by omega, by omega⟩ (fun h1 => ?_) (fun h1 => ?_)
    · refine x_aload_n (i := 0) C dX12_keepMen_31 rfl rfl ?_
      refine x_getRs (r := 45) C fkM_X12_145 (nlt rfl) rfl (HG.rR hH (k := 0) (i := 70) rfl rfl) dX12_keepMen_32 ?_
      refine x_iconst C dX12_keepMen_35 ?_
      refine x_iload_n (i := 1) C dX12_keepMen_36 rfl rfl ?_
      refine x_imul C dX12_keepMen_37 ?_
      refine x_eq (b := 0) rfl ?_
      refine x_aload_n (i := 0) C dX12_keepMen_38 rfl rfl ?_
      refine x_getRs (r := 13) C fkM_X12_47 (nlt rfl) rfl (HG.rR hH (k := 0) (i := 30) rfl rfl) dX12_keepMen_39 ?_
      refine x_iconst C dX12_keepMen_42 ?_
      refine x_iald C (nlt rfl) rfl rfl (nle rfl) (by omega) (by omega) dX12_keepMen_43 ?_
      refine x_gen (fun v2 ev2 => ?_)
      have qv2 : ((-1) : Int) ≤ v2 ∧ v2 ≤ (5 : Int) := by
        rw [ev2]
        exact hH.rA (k := 13) (n := 2) (p := ((-1), 5)) (nlt rfl) rfl (by decide +kernel) (by omega)
      refine x_iast C (nlt rfl) rfl rfl (nle rfl) (by omega) (by omega) dX12_keepMen_44 ?_
      refine x_gX (fun Yy3 eYy3 => ?_)
      have hHy3 : HG vM Yy3 := by
        rw [eYy3]
        exact hg_wA hH (n := 6) (p := ((-1), 5)) (by decide +kernel) (by omega) ⟨by omega, by omega⟩
      have hFy3 : FR (cMd k_M_181) X0 Yy3 := by
        rw [eYy3]
        exact FR.upI hF (rfl)
      refine x_aload_n (i := 0) C dX12_keepMen_45 rfl rfl ?_
      refine x_getRs (r := 45) C fkM_X12_145 (nlt rfl) rfl (HG.rR hHy3 (k := 0) (i := 70) rfl rfl) dX12_keepMen_46 ?_
      refine x_iconst C dX12_keepMen_49 ?_
      refine x_iload_n (i := 1) C dX12_keepMen_50 rfl rfl ?_
      refine x_imul C dX12_keepMen_51 ?_
      refine x_eq (b := 0) rfl ?_
      refine x_iconst C dX12_keepMen_52 ?_
      refine x_iadd C dX12_keepMen_53 ?_
      refine x_eq (b := 1) rfl ?_
      refine x_aload_n (i := 0) C dX12_keepMen_54 rfl rfl ?_
      refine x_getRs (r := 13) C fkM_X12_47 (nlt rfl) rfl (HG.rR hHy3 (k := 0) (i := 30) rfl rfl) dX12_keepMen_55 ?_
      refine x_iconst C dX12_keepMen_58 ?_
      refine x_iald C (nlt rfl) rfl rfl (nle rfl) (by omega) (by omega) dX12_keepMen_59 ?_
      refine x_gen (fun v4 ev4 => ?_)
      have qv4 : ((-1) : Int) ≤ v4 ∧ v4 ≤ (5 : Int) := by
        rw [ev4]
        exact hHy3.rA (k := 13) (n := 2) (p := ((-1), 5)) (nlt rfl) rfl (by decide +kernel) (by omega)
      refine x_iast C (nlt rfl) rfl rfl (nle rfl) (by omega) (by omega) dX12_keepMen_60 ?_
      refine x_gX (fun Yy5 eYy5 => ?_)
      have hHy5 : HG vM Yy5 := by
        rw [eYy5]
        exact hg_wA hHy3 (n := 6) (p := ((-1), 5)) (by decide +kernel) (by omega) ⟨by omega, by omega⟩
      have hFy5 : FR (cMd k_M_181) X0 Yy5 := by
        rw [eYy5]
        exact FR.upI hFy3 (rfl)
      refine x_aload_n (i := 0) C dX12_keepMen_61 rfl rfl ?_
      refine x_getRs (r := 46) C fkM_X12_148 (nlt rfl) rfl (HG.rR hHy5 (k := 0) (i := 71) rfl rfl) dX12_keepMen_62 ?_
      refine x_iload_n (i := 1) C dX12_keepMen_65 rfl rfl ?_
      refine x_aload_n (i := 0) C dX12_keepMen_66 rfl rfl ?_
      refine x_getI C fkM_X12_296 (nlt rfl) rfl dX12_keepMen_67 ?_
      refine x_gen (fun v6 ev6 => ?_)
      have qv6 : (0 : Int) ≤ v6 ∧ v6 ≤ (1 : Int) := by
        rw [ev6]
        exact hHy5.rF (k := 0) (i := 31) rfl rfl
      refine x_iast C (nlt rfl) rfl rfl (nle rfl) (by omega) (by omega) dX12_keepMen_70 ?_
      refine x_gX (fun Yy7 eYy7 => ?_)
      have hHy7 : HG vM Yy7 := by
        rw [eYy7]
        exact hg_wA hHy5 (n := 3) (p := (0, 1)) (by decide +kernel) (by omega) ⟨by omega, by omega⟩
      have hFy7 : FR (cMd k_M_181) X0 Yy7 := by
        rw [eYy7]
        exact FR.upI hFy5 (rfl)
      exact x_vret C hQ dX12_keepMen_71 (⟨rfl, hHy7, hFy7, fun j hj => by rw [eYy7, eYy5, eYy3]; exact hc j (by omega)⟩)
    · refine x_aload_n (i := 0) C dX12_keepMen_8 rfl rfl ?_
      refine x_getRs (r := 44) C fkM_X12_142 (nlt rfl) rfl (HG.rR hH (k := 0) (i := 69) rfl rfl) dX12_keepMen_9 ?_
      refine x_bipush C dX12_keepMen_12 (by decide) ?_
      refine x_iload_n (i := 1) C dX12_keepMen_14 rfl rfl ?_
      refine x_imul C dX12_keepMen_15 ?_
      refine x_eq (b := 0) rfl ?_
      refine x_iload_n (i := 2) C dX12_keepMen_16 rfl rfl ?_
      refine x_iadd C dX12_keepMen_17 ?_
      refine x_aload_n (i := 0) C dX12_keepMen_18 rfl rfl ?_
      refine x_getRs (r := 12) C fkM_X12_44 (nlt rfl) rfl (HG.rR hH (k := 0) (i := 29) rfl rfl) dX12_keepMen_19 ?_
      refine x_iload_n (i := 2) C dX12_keepMen_22 rfl rfl ?_
      refine x_iald C (nlt rfl) rfl rfl (nle rfl) (by omega) (by omega) dX12_keepMen_23 ?_
      refine x_gen (fun v8 ev8 => ?_)
      have qv8 : ((-1) : Int) ≤ v8 ∧ v8 ≤ (35 : Int) := by
        rw [ev8]
        exact hH.rA (k := 12) (n := 7) (p := ((-1), 35)) (nlt rfl) rfl (by decide +kernel) (by omega)
      refine x_iast C (nlt rfl) rfl rfl (nle rfl) (by omega) (by omega) dX12_keepMen_24 ?_
      refine x_gX (fun Yy9 eYy9 => ?_)
      have hHy9 : HG vM Yy9 := by
        rw [eYy9]
        exact hg_wA hH (n := 18) (p := ((-1), 35)) (by decide +kernel) (by omega) ⟨by omega, by omega⟩
      have hFy9 : FR (cMd k_M_181) X0 Yy9 := by
        rw [eYy9]
        exact FR.upI hF (by rcases (show i = 0 ∨ i = 1 ∨ i = 2 ∨ i = 3 ∨ i = 4 ∨ i = 5 by omega) with rfl | rfl | rfl | rfl | rfl | rfl <;> rfl)
      refine x_iinc (lv' := [(2, .int (iI (i + 1))), (0, .ref 0), (1, .int (iI (0)))]) C dX12_keepMen_25 rfl (nlt rfl) rfl ?_
      refine x_goto (tgt := 2) C dX12_keepMen_28 (by decide) ?_
      refine ih _ _ (by omega) (by omega) (by omega) hHy9 hFy9 (fun j hj => ?_)
      rw [eYy9]
      by_cases ej : j = i.toNat
      · subst ej
        rw [show 6 * 0 + i.toNat = (0 + i).toNat by omega, upI_at]
        rw [ev8]
        exact (hF 12 _ rfl).1
      · rw [upI_ne (by omega)]
        exact hc j (by omega)
set_option maxHeartbeats 4000000 in
set_option maxRecDepth 100000 in
theorem q_keepMen0 {D : va_G} {ad : Nat → Nat} {cA : Nat → ClassId} {X : XT} (hH : HG vM X) : MetX (wM D ad cA) yX12_keepMen cX12_keepMen 3 none 0 0 [.ref 0, .int (iI (0))] X (fun r X1 => r = none ∧ HG vM X1 ∧ FR (cMd k_M_181) X X1 ∧ (∀ j : Nat, (j : Int) < 6 → X1.1 44 (6 * 0 + j) = X.1 12 j)) := by
  refine MetX.mk (own := RX12) (by decide +kernel) rfl (nle rfl) (fun E C hQ => ?_)
  refine Wx_lv (lv' := [(0, .ref 0), (1, .int (iI (0)))]) rfl ?_
  refine x_iconst C dX12_keepMen_0 ?_
  refine x_istore_n (i := 2) (lv' := [(2, .int (iI (0))), (0, .ref 0), (1, .int (iI (0)))]) C dX12_keepMen_1 rfl (nlt rfl) rfl ?_
  exact lq_keepMen0 (X0 := X) C hQ 700 0 X (by omega) (by omega) (by omega) hH FR.rf (fun j hj => by omega)
set_option maxRecDepth 10000 in
theorem t_M_181 {D : va_G} {ad : Nat → Nat} {cA : Nat → ClassId} : CTR mtM vM gM (wM D ad cA) k_M_181 := by
  intro g X hpre
  obtain ⟨h00, hei, hel, hdl, hH, hE⟩ := hpre
  have h0 : (0 : Int) ≤ g.1 0 ∧ g.1 0 ≤ (0 : Int) := hei 0 _ rfl
  have h1 : (0 : Int) ≤ g.1 1 ∧ g.1 1 ≤ (0 : Int) := hei 1 _ rfl
  have h2 : (0 : Int) ≤ g.1 2 ∧ g.1 2 ≤ (1 : Int) := hei 2 _ rfl
  have h3 : (0 : Int) ≤ g.1 3 ∧ g.1 3 ≤ (1 : Int) := hei 3 _ rfl
  have h4 : (0 : Int) ≤ g.1 4 ∧ g.1 4 ≤ (6 : Int) := hei 4 _ rfl
  have e0 : stM 0 X = g.1 2 + 0 := gh_at rfl (hdl ((900, 0), (0, 2, 0)) (.head _))
  have e1 : stM 1 X = g.1 3 + 0 := gh_at rfl (hdl ((901, 0), (0, 3, 0)) (.tail _ (.head _)))
  have m6 : X.1 0 25 = g.1 4 + 0 := (hdl ((0, 25), (0, 4, 0)) (.tail _ (.tail _ (.head _))))
  have ea : (cAr k_M_181).map (dn g) = [.ref 0, .int (iI 0)] := by
    show [_, Value.int (iI (g.1 1 + 0))] = _
    rw [show g.1 1 + 0 = 0 by omega]
    rfl
  rw [ea]
  refine MetX.imp (fun r X1 hp => ?_) (q_keepMen0 (X := X) hH)
  obtain ⟨rfl, hH1, hF1, hc⟩ := hp
  have t0 : stM 0 X1 = stM 0 X := stM_cg (hF1 0 25 rfl).1 (fun i _ => (hF1 11 i rfl).1) (fun i _ => (hF1 12 i rfl).1)
  have t1 : stM 1 X1 = stM 1 X := stM_cg (hF1 0 25 rfl).1 (fun i _ => (hF1 11 i rfl).1) (fun i _ => (hF1 12 i rfl).1)
  by_cases z0 : g.1 2 = 0
  · exact (altM_mk 1 [] rfl (ei_cons ⟨by show (0 : Int) ≤ g.1 0; omega, by show g.1 0 ≤ (0 : Int); omega⟩ (ei_cons ⟨by show (0 : Int) ≤ g.1 1; omega, by show g.1 1 ≤ (0 : Int); omega⟩ (ei_cons ⟨by show (0 : Int) ≤ g.1 2; omega, by show g.1 2 ≤ (0 : Int); omega⟩ (ei_cons ⟨by show (0 : Int) ≤ g.1 3; omega, by show g.1 3 ≤ (1 : Int); omega⟩ (ei_cons ⟨by show (0 : Int) ≤ g.1 4; omega, by show g.1 4 ≤ (6 : Int); omega⟩ ei_nil))))) el_nil (by rfl) (dl_cons (gh_mk rfl (by show stM 0 X1 = g.1 2 + 0; omega)) (dl_cons (gh_mk rfl (by show stM 1 X1 = g.1 3 + 0; omega)) dl_nil)) gd_nil hH1 (bok_fr hE hF1 rfl) hF1)
  by_cases z1 : g.1 3 = 0
  · exact (altM_mk 2 [] rfl (ei_cons ⟨by show (0 : Int) ≤ g.1 0; omega, by show g.1 0 ≤ (0 : Int); omega⟩ (ei_cons ⟨by show (0 : Int) ≤ g.1 1; omega, by show g.1 1 ≤ (0 : Int); omega⟩ (ei_cons ⟨by show (0 : Int) ≤ g.1 2; omega, by show g.1 2 ≤ (1 : Int); omega⟩ (ei_cons ⟨by show (0 : Int) ≤ g.1 3; omega, by show g.1 3 ≤ (0 : Int); omega⟩ (ei_cons ⟨by show (0 : Int) ≤ g.1 4; omega, by show g.1 4 ≤ (6 : Int); omega⟩ ei_nil))))) el_nil (by rfl) (dl_cons (gh_mk rfl (by show stM 0 X1 = g.1 2 + 0; omega)) (dl_cons (gh_mk rfl (by show stM 1 X1 = g.1 3 + 0; omega)) dl_nil)) gd_nil hH1 (bok_fr hE hF1 rfl) hF1)
  have em : menK X1 = menN X := by
    unfold menK menN
    rw [(hF1 0 25 rfl).1]
    omega
  have eb : menN X ≤ 6 := by
    unfold menN
    omega
  have c0 := cntM_cg (a := 12) (o := 0) (b := 44) (q := 6 * 0) (s := 0) (X := X) (Y := X1) (menN X) (fun i hi => (hF1 11 i rfl).1) (fun i hi => (hc i (by omega)).trans (by rw [Nat.zero_add]))
  have n0 := stM_n (s := 0) (X := X) (by omega)
  have c1 := cntM_cg (a := 12) (o := 0) (b := 44) (q := 6 * 0) (s := 1) (X := X) (Y := X1) (menN X) (fun i hi => (hF1 11 i rfl).1) (fun i hi => (hc i (by omega)).trans (by rw [Nat.zero_add]))
  have n1 := stM_n (s := 1) (X := X) (by omega)
  have k1 : kpM 0 X1 = 1 := kpM_1 (by rw [em, c0]; exact n0) (by rw [em, c1]; exact n1)
  exact (altM_mk 0 [1] rfl (ei_cons ⟨by show (0 : Int) ≤ g.1 0; omega, by show g.1 0 ≤ (0 : Int); omega⟩ (ei_cons ⟨by show (0 : Int) ≤ g.1 1; omega, by show g.1 1 ≤ (0 : Int); omega⟩ (ei_cons ⟨by show (1 : Int) ≤ g.1 2; omega, by show g.1 2 ≤ (1 : Int); omega⟩ (ei_cons ⟨by show (1 : Int) ≤ g.1 3; omega, by show g.1 3 ≤ (1 : Int); omega⟩ (ei_cons ⟨by show (0 : Int) ≤ g.1 4; omega, by show g.1 4 ≤ (6 : Int); omega⟩ (ei_cons ⟨by show (1 : Int) ≤ 1; omega, by show 1 ≤ (1 : Int); omega⟩ ei_nil)))))) el_nil (by rfl) (dl_cons (gh_mk rfl (by show stM 0 X1 = g.1 2 + 0; omega)) (dl_cons (gh_mk rfl (by show stM 1 X1 = g.1 3 + 0; omega)) (dl_cons (gh_mk rfl (by show kpM 0 X1 = (1 : Int) + 0; omega)) dl_nil))) gd_nil hH1 (bok_fr hE hF1 rfl) hF1)
set_option maxHeartbeats 4000000 in
set_option maxRecDepth 100000 in
theorem lq_keepMen1 {D : va_G} {ad : Nat → Nat} {cA : Nat → ClassId} {X0 : XT} {E : ET} {rm : Room} (C : CX E (wM D ad cA) cX12_keepMen 3 RX12 none rm) (hQ : EQ E (wM D ad cA) (fun r X => r = none ∧ HG vM X ∧ FR (cMd k_M_184) X0 X ∧ (∀ j : Nat, (j : Int) < 6 → X.1 44 (6 * 1 + j) = X0.1 12 j))) : ∀ (n : Nat) (i : Int) (X : XT), 6 - i < n → 0 ≤ i → i ≤ 6 → HG vM X → FR (cMd k_M_184) X0 X → (∀ j : Nat, (j : Int) < i → X.1 44 (6 * 1 + j) = X0.1 12 j) → Wx E (wM D ad cA) 3 (PX (wM D ad cA) X) 2 [(2, .int (iI (i))), (0, .ref 0), (1, .int (iI (1)))] [] := by
  intro n
  induction n with
  | zero => intro i X hn i0 i1 hH hF hc; exfalso; omega
  | succ n ih =>
    intro i X hn i0 i1 hH hF hc
    refine x_iload_n (i := 2) C dX12_keepMen_2 rfl rfl ?_
    refine x_bipush C dX12_keepMen_3 (by decide) ?_
    refine x_icmp_ge (tgt := 31) C dX12_keepMen_5 (by decide) ⟨by omega, by omega⟩ ⟨by omega, by omega⟩ (fun h1 => ?_) (fun h1 => ?_)
    · refine x_aload_n (i := 0) C dX12_keepMen_31 rfl rfl ?_
      refine x_getRs (r := 45) C fkM_X12_145 (nlt rfl) rfl (HG.rR hH (k := 0) (i := 70) rfl rfl) dX12_keepMen_32 ?_
      refine x_iconst C dX12_keepMen_35 ?_
      refine x_iload_n (i := 1) C dX12_keepMen_36 rfl rfl ?_
      refine x_imul C dX12_keepMen_37 ?_
      refine x_eq (b := 2) rfl ?_
      refine x_aload_n (i := 0) C dX12_keepMen_38 rfl rfl ?_
      refine x_getRs (r := 13) C fkM_X12_47 (nlt rfl) rfl (HG.rR hH (k := 0) (i := 30) rfl rfl) dX12_keepMen_39 ?_
      refine x_iconst C dX12_keepMen_42 ?_
      refine x_iald C (nlt rfl) rfl rfl (nle rfl) (by omega) (by omega) dX12_keepMen_43 ?_
      refine x_gen (fun v2 ev2 => ?_)
      have qv2 : ((-1) : Int) ≤ v2 ∧ v2 ≤ (5 : Int) := by
        rw [ev2]
        exact hH.rA (k := 13) (n := 2) (p := ((-1), 5)) (nlt rfl) rfl (by decide +kernel) (by omega)
      refine x_iast C (nlt rfl) rfl rfl (nle rfl) (by omega) (by omega) dX12_keepMen_44 ?_
      refine x_gX (fun Yy3 eYy3 => ?_)
      have hHy3 : HG vM Yy3 := by
        rw [eYy3]
        exact hg_wA hH (n := 6) (p := ((-1), 5)) (by decide +kernel) (by omega) ⟨by omega, by omega⟩
      have hFy3 : FR (cMd k_M_184) X0 Yy3 := by
        rw [eYy3]
        exact FR.upI hF (rfl)
      refine x_aload_n (i := 0) C dX12_keepMen_45 rfl rfl ?_
      refine x_getRs (r := 45) C fkM_X12_145 (nlt rfl) rfl (HG.rR hHy3 (k := 0) (i := 70) rfl rfl) dX12_keepMen_46 ?_
      refine x_iconst C dX12_keepMen_49 ?_
      refine x_iload_n (i := 1) C dX12_keepMen_50 rfl rfl ?_
      refine x_imul C dX12_keepMen_51 ?_
      refine x_eq (b := 2) rfl ?_
      refine x_iconst C dX12_keepMen_52 ?_
      refine x_iadd C dX12_keepMen_53 ?_
      refine x_eq (b := 3) rfl ?_
      refine x_aload_n (i := 0) C dX12_keepMen_54 rfl rfl ?_
      refine x_getRs (r := 13) C fkM_X12_47 (nlt rfl) rfl (HG.rR hHy3 (k := 0) (i := 30) rfl rfl) dX12_keepMen_55 ?_
      refine x_iconst C dX12_keepMen_58 ?_
      refine x_iald C (nlt rfl) rfl rfl (nle rfl) (by omega) (by omega) dX12_keepMen_59 ?_
      refine x_gen (fun v4 ev4 => ?_)
      have qv4 : ((-1) : Int) ≤ v4 ∧ v4 ≤ (5 : Int) := by
        rw [ev4]
        exact hHy3.rA (k := 13) (n := 2) (p := ((-1), 5)) (nlt rfl) rfl (by decide +kernel) (by omega)
      refine x_iast C (nlt rfl) rfl rfl (nle rfl) (by omega) (by omega) dX12_keepMen_60 ?_
      refine x_gX (fun Yy5 eYy5 => ?_)
      have hHy5 : HG vM Yy5 := by
        rw [eYy5]
        exact hg_wA hHy3 (n := 6) (p := ((-1), 5)) (by decide +kernel) (by omega) ⟨by omega, by omega⟩
      have hFy5 : FR (cMd k_M_184) X0 Yy5 := by
        rw [eYy5]
        exact FR.upI hFy3 (rfl)
      refine x_aload_n (i := 0) C dX12_keepMen_61 rfl rfl ?_
      refine x_getRs (r := 46) C fkM_X12_148 (nlt rfl) rfl (HG.rR hHy5 (k := 0) (i := 71) rfl rfl) dX12_keepMen_62 ?_
      refine x_iload_n (i := 1) C dX12_keepMen_65 rfl rfl ?_
      refine x_aload_n (i := 0) C dX12_keepMen_66 rfl rfl ?_
      refine x_getI C fkM_X12_296 (nlt rfl) rfl dX12_keepMen_67 ?_
      refine x_gen (fun v6 ev6 => ?_)
      have qv6 : (0 : Int) ≤ v6 ∧ v6 ≤ (1 : Int) := by
        rw [ev6]
        exact hHy5.rF (k := 0) (i := 31) rfl rfl
      refine x_iast C (nlt rfl) rfl rfl (nle rfl) (by omega) (by omega) dX12_keepMen_70 ?_
      refine x_gX (fun Yy7 eYy7 => ?_)
      have hHy7 : HG vM Yy7 := by
        rw [eYy7]
        exact hg_wA hHy5 (n := 3) (p := (0, 1)) (by decide +kernel) (by omega) ⟨by omega, by omega⟩
      have hFy7 : FR (cMd k_M_184) X0 Yy7 := by
        rw [eYy7]
        exact FR.upI hFy5 (rfl)
      exact x_vret C hQ dX12_keepMen_71 (⟨rfl, hHy7, hFy7, fun j hj => by rw [eYy7, eYy5, eYy3]; exact hc j (by omega)⟩)
    · refine x_aload_n (i := 0) C dX12_keepMen_8 rfl rfl ?_
      refine x_getRs (r := 44) C fkM_X12_142 (nlt rfl) rfl (HG.rR hH (k := 0) (i := 69) rfl rfl) dX12_keepMen_9 ?_
      refine x_bipush C dX12_keepMen_12 (by decide) ?_
      refine x_iload_n (i := 1) C dX12_keepMen_14 rfl rfl ?_
      refine x_imul C dX12_keepMen_15 ?_
      refine x_eq (b := 6) rfl ?_
      refine x_iload_n (i := 2) C dX12_keepMen_16 rfl rfl ?_
      refine x_iadd C dX12_keepMen_17 ?_
      refine x_aload_n (i := 0) C dX12_keepMen_18 rfl rfl ?_
      refine x_getRs (r := 12) C fkM_X12_44 (nlt rfl) rfl (HG.rR hH (k := 0) (i := 29) rfl rfl) dX12_keepMen_19 ?_
      refine x_iload_n (i := 2) C dX12_keepMen_22 rfl rfl ?_
      refine x_iald C (nlt rfl) rfl rfl (nle rfl) (by omega) (by omega) dX12_keepMen_23 ?_
      refine x_gen (fun v8 ev8 => ?_)
      have qv8 : ((-1) : Int) ≤ v8 ∧ v8 ≤ (35 : Int) := by
        rw [ev8]
        exact hH.rA (k := 12) (n := 7) (p := ((-1), 35)) (nlt rfl) rfl (by decide +kernel) (by omega)
      refine x_iast C (nlt rfl) rfl rfl (nle rfl) (by omega) (by omega) dX12_keepMen_24 ?_
      refine x_gX (fun Yy9 eYy9 => ?_)
      have hHy9 : HG vM Yy9 := by
        rw [eYy9]
        exact hg_wA hH (n := 18) (p := ((-1), 35)) (by decide +kernel) (by omega) ⟨by omega, by omega⟩
      have hFy9 : FR (cMd k_M_184) X0 Yy9 := by
        rw [eYy9]
        exact FR.upI hF (by rcases (show i = 0 ∨ i = 1 ∨ i = 2 ∨ i = 3 ∨ i = 4 ∨ i = 5 by omega) with rfl | rfl | rfl | rfl | rfl | rfl <;> rfl)
      refine x_iinc (lv' := [(2, .int (iI (i + 1))), (0, .ref 0), (1, .int (iI (1)))]) C dX12_keepMen_25 rfl (nlt rfl) rfl ?_
      refine x_goto (tgt := 2) C dX12_keepMen_28 (by decide) ?_
      refine ih _ _ (by omega) (by omega) (by omega) hHy9 hFy9 (fun j hj => ?_)
      rw [eYy9]
      by_cases ej : j = i.toNat
      · subst ej
        rw [show 6 * 1 + i.toNat = (6 + i).toNat by omega, upI_at]
        rw [ev8]
        exact (hF 12 _ rfl).1
      · rw [upI_ne (by omega)]
        exact hc j (by omega)
set_option maxHeartbeats 4000000 in
set_option maxRecDepth 100000 in
theorem q_keepMen1 {D : va_G} {ad : Nat → Nat} {cA : Nat → ClassId} {X : XT} (hH : HG vM X) : MetX (wM D ad cA) yX12_keepMen cX12_keepMen 3 none 0 0 [.ref 0, .int (iI (1))] X (fun r X1 => r = none ∧ HG vM X1 ∧ FR (cMd k_M_184) X X1 ∧ (∀ j : Nat, (j : Int) < 6 → X1.1 44 (6 * 1 + j) = X.1 12 j)) := by
  refine MetX.mk (own := RX12) (by decide +kernel) rfl (nle rfl) (fun E C hQ => ?_)
  refine Wx_lv (lv' := [(0, .ref 0), (1, .int (iI (1)))]) rfl ?_
  refine x_iconst C dX12_keepMen_0 ?_
  refine x_istore_n (i := 2) (lv' := [(2, .int (iI (0))), (0, .ref 0), (1, .int (iI (1)))]) C dX12_keepMen_1 rfl (nlt rfl) rfl ?_
  exact lq_keepMen1 (X0 := X) C hQ 700 0 X (by omega) (by omega) (by omega) hH FR.rf (fun j hj => by omega)
set_option maxRecDepth 10000 in
theorem t_M_184 {D : va_G} {ad : Nat → Nat} {cA : Nat → ClassId} : CTR mtM vM gM (wM D ad cA) k_M_184 := by
  intro g X hpre
  obtain ⟨h00, hei, hel, hdl, hH, hE⟩ := hpre
  have h0 : (0 : Int) ≤ g.1 0 ∧ g.1 0 ≤ (0 : Int) := hei 0 _ rfl
  have h1 : (1 : Int) ≤ g.1 1 ∧ g.1 1 ≤ (1 : Int) := hei 1 _ rfl
  have h2 : (0 : Int) ≤ g.1 2 ∧ g.1 2 ≤ (1 : Int) := hei 2 _ rfl
  have h3 : (0 : Int) ≤ g.1 3 ∧ g.1 3 ≤ (1 : Int) := hei 3 _ rfl
  have h4 : (0 : Int) ≤ g.1 4 ∧ g.1 4 ≤ (6 : Int) := hei 4 _ rfl
  have e0 : stM 0 X = g.1 2 + 0 := gh_at rfl (hdl ((900, 0), (0, 2, 0)) (.head _))
  have e1 : stM 1 X = g.1 3 + 0 := gh_at rfl (hdl ((901, 0), (0, 3, 0)) (.tail _ (.head _)))
  have m6 : X.1 0 25 = g.1 4 + 0 := (hdl ((0, 25), (0, 4, 0)) (.tail _ (.tail _ (.head _))))
  have ea : (cAr k_M_184).map (dn g) = [.ref 0, .int (iI 1)] := by
    show [_, Value.int (iI (g.1 1 + 0))] = _
    rw [show g.1 1 + 0 = 1 by omega]
    rfl
  rw [ea]
  refine MetX.imp (fun r X1 hp => ?_) (q_keepMen1 (X := X) hH)
  obtain ⟨rfl, hH1, hF1, hc⟩ := hp
  have t0 : stM 0 X1 = stM 0 X := stM_cg (hF1 0 25 rfl).1 (fun i _ => (hF1 11 i rfl).1) (fun i _ => (hF1 12 i rfl).1)
  have t1 : stM 1 X1 = stM 1 X := stM_cg (hF1 0 25 rfl).1 (fun i _ => (hF1 11 i rfl).1) (fun i _ => (hF1 12 i rfl).1)
  by_cases z0 : g.1 2 = 0
  · exact (altM_mk 1 [] rfl (ei_cons ⟨by show (0 : Int) ≤ g.1 0; omega, by show g.1 0 ≤ (0 : Int); omega⟩ (ei_cons ⟨by show (1 : Int) ≤ g.1 1; omega, by show g.1 1 ≤ (1 : Int); omega⟩ (ei_cons ⟨by show (0 : Int) ≤ g.1 2; omega, by show g.1 2 ≤ (0 : Int); omega⟩ (ei_cons ⟨by show (0 : Int) ≤ g.1 3; omega, by show g.1 3 ≤ (1 : Int); omega⟩ (ei_cons ⟨by show (0 : Int) ≤ g.1 4; omega, by show g.1 4 ≤ (6 : Int); omega⟩ ei_nil))))) el_nil (by rfl) (dl_cons (gh_mk rfl (by show stM 0 X1 = g.1 2 + 0; omega)) (dl_cons (gh_mk rfl (by show stM 1 X1 = g.1 3 + 0; omega)) dl_nil)) gd_nil hH1 (bok_fr hE hF1 rfl) hF1)
  by_cases z1 : g.1 3 = 0
  · exact (altM_mk 2 [] rfl (ei_cons ⟨by show (0 : Int) ≤ g.1 0; omega, by show g.1 0 ≤ (0 : Int); omega⟩ (ei_cons ⟨by show (1 : Int) ≤ g.1 1; omega, by show g.1 1 ≤ (1 : Int); omega⟩ (ei_cons ⟨by show (0 : Int) ≤ g.1 2; omega, by show g.1 2 ≤ (1 : Int); omega⟩ (ei_cons ⟨by show (0 : Int) ≤ g.1 3; omega, by show g.1 3 ≤ (0 : Int); omega⟩ (ei_cons ⟨by show (0 : Int) ≤ g.1 4; omega, by show g.1 4 ≤ (6 : Int); omega⟩ ei_nil))))) el_nil (by rfl) (dl_cons (gh_mk rfl (by show stM 0 X1 = g.1 2 + 0; omega)) (dl_cons (gh_mk rfl (by show stM 1 X1 = g.1 3 + 0; omega)) dl_nil)) gd_nil hH1 (bok_fr hE hF1 rfl) hF1)
  have em : menK X1 = menN X := by
    unfold menK menN
    rw [(hF1 0 25 rfl).1]
    omega
  have eb : menN X ≤ 6 := by
    unfold menN
    omega
  have c0 := cntM_cg (a := 12) (o := 0) (b := 44) (q := 6 * 1) (s := 0) (X := X) (Y := X1) (menN X) (fun i hi => (hF1 11 i rfl).1) (fun i hi => (hc i (by omega)).trans (by rw [Nat.zero_add]))
  have n0 := stM_n (s := 0) (X := X) (by omega)
  have c1 := cntM_cg (a := 12) (o := 0) (b := 44) (q := 6 * 1) (s := 1) (X := X) (Y := X1) (menN X) (fun i hi => (hF1 11 i rfl).1) (fun i hi => (hc i (by omega)).trans (by rw [Nat.zero_add]))
  have n1 := stM_n (s := 1) (X := X) (by omega)
  have k1 : kpM 1 X1 = 1 := kpM_1 (by rw [em, c0]; exact n0) (by rw [em, c1]; exact n1)
  exact (altM_mk 0 [1] rfl (ei_cons ⟨by show (0 : Int) ≤ g.1 0; omega, by show g.1 0 ≤ (0 : Int); omega⟩ (ei_cons ⟨by show (1 : Int) ≤ g.1 1; omega, by show g.1 1 ≤ (1 : Int); omega⟩ (ei_cons ⟨by show (1 : Int) ≤ g.1 2; omega, by show g.1 2 ≤ (1 : Int); omega⟩ (ei_cons ⟨by show (1 : Int) ≤ g.1 3; omega, by show g.1 3 ≤ (1 : Int); omega⟩ (ei_cons ⟨by show (0 : Int) ≤ g.1 4; omega, by show g.1 4 ≤ (6 : Int); omega⟩ (ei_cons ⟨by show (1 : Int) ≤ 1; omega, by show 1 ≤ (1 : Int); omega⟩ ei_nil)))))) el_nil (by rfl) (dl_cons (gh_mk rfl (by show stM 0 X1 = g.1 2 + 0; omega)) (dl_cons (gh_mk rfl (by show stM 1 X1 = g.1 3 + 0; omega)) (dl_cons (gh_mk rfl (by show kpM 1 X1 = (1 : Int) + 0; omega)) dl_nil))) gd_nil hH1 (bok_fr hE hF1 rfl) hF1)
set_option maxHeartbeats 4000000 in
set_option maxRecDepth 100000 in
theorem lq_keepMen2 {D : va_G} {ad : Nat → Nat} {cA : Nat → ClassId} {X0 : XT} {E : ET} {rm : Room} (C : CX E (wM D ad cA) cX12_keepMen 3 RX12 none rm) (hQ : EQ E (wM D ad cA) (fun r X => r = none ∧ HG vM X ∧ FR (cMd k_M_189) X0 X ∧ (∀ j : Nat, (j : Int) < 6 → X.1 44 (6 * 2 + j) = X0.1 12 j))) : ∀ (n : Nat) (i : Int) (X : XT), 6 - i < n → 0 ≤ i → i ≤ 6 → HG vM X → FR (cMd k_M_189) X0 X → (∀ j : Nat, (j : Int) < i → X.1 44 (6 * 2 + j) = X0.1 12 j) → Wx E (wM D ad cA) 3 (PX (wM D ad cA) X) 2 [(2, .int (iI (i))), (0, .ref 0), (1, .int (iI (2)))] [] := by
  intro n
  induction n with
  | zero => intro i X hn i0 i1 hH hF hc; exfalso; omega
  | succ n ih =>
    intro i X hn i0 i1 hH hF hc
    refine x_iload_n (i := 2) C dX12_keepMen_2 rfl rfl ?_
    refine x_bipush C dX12_keepMen_3 (by decide) ?_
    refine x_icmp_ge (tgt := 31) C dX12_keepMen_5 (by decide) ⟨by omega, by omega⟩ ⟨by omega, by omega⟩ (fun h1 => ?_) (fun h1 => ?_)
    · refine x_aload_n (i := 0) C dX12_keepMen_31 rfl rfl ?_
      refine x_getRs (r := 45) C fkM_X12_145 (nlt rfl) rfl (HG.rR hH (k := 0) (i := 70) rfl rfl) dX12_keepMen_32 ?_
      refine x_iconst C dX12_keepMen_35 ?_
      refine x_iload_n (i := 1) C dX12_keepMen_36 rfl rfl ?_
      refine x_imul C dX12_keepMen_37 ?_
      refine x_eq (b := 4) rfl ?_
      refine x_aload_n (i := 0) C dX12_keepMen_38 rfl rfl ?_
      refine x_getRs (r := 13) C fkM_X12_47 (nlt rfl) rfl (HG.rR hH (k := 0) (i := 30) rfl rfl) dX12_keepMen_39 ?_
      refine x_iconst C dX12_keepMen_42 ?_
      refine x_iald C (nlt rfl) rfl rfl (nle rfl) (by omega) (by omega) dX12_keepMen_43 ?_
      refine x_gen (fun v2 ev2 => ?_)
      have qv2 : ((-1) : Int) ≤ v2 ∧ v2 ≤ (5 : Int) := by
        rw [ev2]
        exact hH.rA (k := 13) (n := 2) (p := ((-1), 5)) (nlt rfl) rfl (by decide +kernel) (by omega)
      refine x_iast C (nlt rfl) rfl rfl (nle rfl) (by omega) (by omega) dX12_keepMen_44 ?_
      refine x_gX (fun Yy3 eYy3 => ?_)
      have hHy3 : HG vM Yy3 := by
        rw [eYy3]
        exact hg_wA hH (n := 6) (p := ((-1), 5)) (by decide +kernel) (by omega) ⟨by omega, by omega⟩
      have hFy3 : FR (cMd k_M_189) X0 Yy3 := by
        rw [eYy3]
        exact FR.upI hF (rfl)
      refine x_aload_n (i := 0) C dX12_keepMen_45 rfl rfl ?_
      refine x_getRs (r := 45) C fkM_X12_145 (nlt rfl) rfl (HG.rR hHy3 (k := 0) (i := 70) rfl rfl) dX12_keepMen_46 ?_
      refine x_iconst C dX12_keepMen_49 ?_
      refine x_iload_n (i := 1) C dX12_keepMen_50 rfl rfl ?_
      refine x_imul C dX12_keepMen_51 ?_
      refine x_eq (b := 4) rfl ?_
      refine x_iconst C dX12_keepMen_52 ?_
      refine x_iadd C dX12_keepMen_53 ?_
      refine x_eq (b := 5) rfl ?_
      refine x_aload_n (i := 0) C dX12_keepMen_54 rfl rfl ?_
      refine x_getRs (r := 13) C fkM_X12_47 (nlt rfl) rfl (HG.rR hHy3 (k := 0) (i := 30) rfl rfl) dX12_keepMen_55 ?_
      refine x_iconst C dX12_keepMen_58 ?_
      refine x_iald C (nlt rfl) rfl rfl (nle rfl) (by omega) (by omega) dX12_keepMen_59 ?_
      refine x_gen (fun v4 ev4 => ?_)
      have qv4 : ((-1) : Int) ≤ v4 ∧ v4 ≤ (5 : Int) := by
        rw [ev4]
        exact hHy3.rA (k := 13) (n := 2) (p := ((-1), 5)) (nlt rfl) rfl (by decide +kernel) (by omega)
      refine x_iast C (nlt rfl) rfl rfl (nle rfl) (by omega) (by omega) dX12_keepMen_60 ?_
      refine x_gX (fun Yy5 eYy5 => ?_)
      have hHy5 : HG vM Yy5 := by
        rw [eYy5]
        exact hg_wA hHy3 (n := 6) (p := ((-1), 5)) (by decide +kernel) (by omega) ⟨by omega, by omega⟩
      have hFy5 : FR (cMd k_M_189) X0 Yy5 := by
        rw [eYy5]
        exact FR.upI hFy3 (rfl)
      refine x_aload_n (i := 0) C dX12_keepMen_61 rfl rfl ?_
      refine x_getRs (r := 46) C fkM_X12_148 (nlt rfl) rfl (HG.rR hHy5 (k := 0) (i := 71) rfl rfl) dX12_keepMen_62 ?_
      refine x_iload_n (i := 1) C dX12_keepMen_65 rfl rfl ?_
      refine x_aload_n (i := 0) C dX12_keepMen_66 rfl rfl ?_
      refine x_getI C fkM_X12_296 (nlt rfl) rfl dX12_keepMen_67 ?_
      refine x_gen (fun v6 ev6 => ?_)
      have qv6 : (0 : Int) ≤ v6 ∧ v6 ≤ (1 : Int) := by
        rw [ev6]
        exact hHy5.rF (k := 0) (i := 31) rfl rfl
      refine x_iast C (nlt rfl) rfl rfl (nle rfl) (by omega) (by omega) dX12_keepMen_70 ?_
      refine x_gX (fun Yy7 eYy7 => ?_)
      have hHy7 : HG vM Yy7 := by
        rw [eYy7]
        exact hg_wA hHy5 (n := 3) (p := (0, 1)) (by decide +kernel) (by omega) ⟨by omega, by omega⟩
      have hFy7 : FR (cMd k_M_189) X0 Yy7 := by
        rw [eYy7]
        exact FR.upI hFy5 (rfl)
      exact x_vret C hQ dX12_keepMen_71 (⟨rfl, hHy7, hFy7, fun j hj => by rw [eYy7, eYy5, eYy3]; exact hc j (by omega)⟩)
    · refine x_aload_n (i := 0) C dX12_keepMen_8 rfl rfl ?_
      refine x_getRs (r := 44) C fkM_X12_142 (nlt rfl) rfl (HG.rR hH (k := 0) (i := 69) rfl rfl) dX12_keepMen_9 ?_
      refine x_bipush C dX12_keepMen_12 (by decide) ?_
      refine x_iload_n (i := 1) C dX12_keepMen_14 rfl rfl ?_
      refine x_imul C dX12_keepMen_15 ?_
      refine x_eq (b := 12) rfl ?_
      refine x_iload_n (i := 2) C dX12_keepMen_16 rfl rfl ?_
      refine x_iadd C dX12_keepMen_17 ?_
      refine x_aload_n (i := 0) C dX12_keepMen_18 rfl rfl ?_
      refine x_getRs (r := 12) C fkM_X12_44 (nlt rfl) rfl (HG.rR hH (k := 0) (i := 29) rfl rfl) dX12_keepMen_19 ?_
      refine x_iload_n (i := 2) C dX12_keepMen_22 rfl rfl ?_
      refine x_iald C (nlt rfl) rfl rfl (nle rfl) (by omega) (by omega) dX12_keepMen_23 ?_
      refine x_gen (fun v8 ev8 => ?_)
      have qv8 : ((-1) : Int) ≤ v8 ∧ v8 ≤ (35 : Int) := by
        rw [ev8]
        exact hH.rA (k := 12) (n := 7) (p := ((-1), 35)) (nlt rfl) rfl (by decide +kernel) (by omega)
      refine x_iast C (nlt rfl) rfl rfl (nle rfl) (by omega) (by omega) dX12_keepMen_24 ?_
      refine x_gX (fun Yy9 eYy9 => ?_)
      have hHy9 : HG vM Yy9 := by
        rw [eYy9]
        exact hg_wA hH (n := 18) (p := ((-1), 35)) (by decide +kernel) (by omega) ⟨by omega, by omega⟩
      have hFy9 : FR (cMd k_M_189) X0 Yy9 := by
        rw [eYy9]
        exact FR.upI hF (by rcases (show i = 0 ∨ i = 1 ∨ i = 2 ∨ i = 3 ∨ i = 4 ∨ i = 5 by omega) with rfl | rfl | rfl | rfl | rfl | rfl <;> rfl)
      refine x_iinc (lv' := [(2, .int (iI (i + 1))), (0, .ref 0), (1, .int (iI (2)))]) C dX12_keepMen_25 rfl (nlt rfl) rfl ?_
      refine x_goto (tgt := 2) C dX12_keepMen_28 (by decide) ?_
      refine ih _ _ (by omega) (by omega) (by omega) hHy9 hFy9 (fun j hj => ?_)
      rw [eYy9]
      by_cases ej : j = i.toNat
      · subst ej
        rw [show 6 * 2 + i.toNat = (12 + i).toNat by omega, upI_at]
        rw [ev8]
        exact (hF 12 _ rfl).1
      · rw [upI_ne (by omega)]
        exact hc j (by omega)
set_option maxHeartbeats 4000000 in
set_option maxRecDepth 100000 in
theorem q_keepMen2 {D : va_G} {ad : Nat → Nat} {cA : Nat → ClassId} {X : XT} (hH : HG vM X) : MetX (wM D ad cA) yX12_keepMen cX12_keepMen 3 none 0 0 [.ref 0, .int (iI (2))] X (fun r X1 => r = none ∧ HG vM X1 ∧ FR (cMd k_M_189) X X1 ∧ (∀ j : Nat, (j : Int) < 6 → X1.1 44 (6 * 2 + j) = X.1 12 j)) := by
  refine MetX.mk (own := RX12) (by decide +kernel) rfl (nle rfl) (fun E C hQ => ?_)
  refine Wx_lv (lv' := [(0, .ref 0), (1, .int (iI (2)))]) rfl ?_
  refine x_iconst C dX12_keepMen_0 ?_
  refine x_istore_n (i := 2) (lv' := [(2, .int (iI (0))), (0, .ref 0), (1, .int (iI (2)))]) C dX12_keepMen_1 rfl (nlt rfl) rfl ?_
  exact lq_keepMen2 (X0 := X) C hQ 700 0 X (by omega) (by omega) (by omega) hH FR.rf (fun j hj => by omega)
set_option maxRecDepth 10000 in
theorem t_M_189 {D : va_G} {ad : Nat → Nat} {cA : Nat → ClassId} : CTR mtM vM gM (wM D ad cA) k_M_189 := by
  intro g X hpre
  obtain ⟨h00, hei, hel, hdl, hH, hE⟩ := hpre
  have h0 : (0 : Int) ≤ g.1 0 ∧ g.1 0 ≤ (0 : Int) := hei 0 _ rfl
  have h1 : (2 : Int) ≤ g.1 1 ∧ g.1 1 ≤ (2 : Int) := hei 1 _ rfl
  have h2 : (0 : Int) ≤ g.1 2 ∧ g.1 2 ≤ (1 : Int) := hei 2 _ rfl
  have h3 : (0 : Int) ≤ g.1 3 ∧ g.1 3 ≤ (1 : Int) := hei 3 _ rfl
  have h4 : (0 : Int) ≤ g.1 4 ∧ g.1 4 ≤ (6 : Int) := hei 4 _ rfl
  have e0 : stM 0 X = g.1 2 + 0 := gh_at rfl (hdl ((900, 0), (0, 2, 0)) (.head _))
  have e1 : stM 1 X = g.1 3 + 0 := gh_at rfl (hdl ((901, 0), (0, 3, 0)) (.tail _ (.head _)))
  have m6 : X.1 0 25 = g.1 4 + 0 := (hdl ((0, 25), (0, 4, 0)) (.tail _ (.tail _ (.head _))))
  have ea : (cAr k_M_189).map (dn g) = [.ref 0, .int (iI 2)] := by
    show [_, Value.int (iI (g.1 1 + 0))] = _
    rw [show g.1 1 + 0 = 2 by omega]
    rfl
  rw [ea]
  refine MetX.imp (fun r X1 hp => ?_) (q_keepMen2 (X := X) hH)
  obtain ⟨rfl, hH1, hF1, hc⟩ := hp
  have t0 : stM 0 X1 = stM 0 X := stM_cg (hF1 0 25 rfl).1 (fun i _ => (hF1 11 i rfl).1) (fun i _ => (hF1 12 i rfl).1)
  have t1 : stM 1 X1 = stM 1 X := stM_cg (hF1 0 25 rfl).1 (fun i _ => (hF1 11 i rfl).1) (fun i _ => (hF1 12 i rfl).1)
  by_cases z0 : g.1 2 = 0
  · exact (altM_mk 1 [] rfl (ei_cons ⟨by show (0 : Int) ≤ g.1 0; omega, by show g.1 0 ≤ (0 : Int); omega⟩ (ei_cons ⟨by show (2 : Int) ≤ g.1 1; omega, by show g.1 1 ≤ (2 : Int); omega⟩ (ei_cons ⟨by show (0 : Int) ≤ g.1 2; omega, by show g.1 2 ≤ (0 : Int); omega⟩ (ei_cons ⟨by show (0 : Int) ≤ g.1 3; omega, by show g.1 3 ≤ (1 : Int); omega⟩ (ei_cons ⟨by show (0 : Int) ≤ g.1 4; omega, by show g.1 4 ≤ (6 : Int); omega⟩ ei_nil))))) el_nil (by rfl) (dl_cons (gh_mk rfl (by show stM 0 X1 = g.1 2 + 0; omega)) (dl_cons (gh_mk rfl (by show stM 1 X1 = g.1 3 + 0; omega)) dl_nil)) gd_nil hH1 (bok_fr hE hF1 rfl) hF1)
  by_cases z1 : g.1 3 = 0
  · exact (altM_mk 2 [] rfl (ei_cons ⟨by show (0 : Int) ≤ g.1 0; omega, by show g.1 0 ≤ (0 : Int); omega⟩ (ei_cons ⟨by show (2 : Int) ≤ g.1 1; omega, by show g.1 1 ≤ (2 : Int); omega⟩ (ei_cons ⟨by show (0 : Int) ≤ g.1 2; omega, by show g.1 2 ≤ (1 : Int); omega⟩ (ei_cons ⟨by show (0 : Int) ≤ g.1 3; omega, by show g.1 3 ≤ (0 : Int); omega⟩ (ei_cons ⟨by show (0 : Int) ≤ g.1 4; omega, by show g.1 4 ≤ (6 : Int); omega⟩ ei_nil))))) el_nil (by rfl) (dl_cons (gh_mk rfl (by show stM 0 X1 = g.1 2 + 0; omega)) (dl_cons (gh_mk rfl (by show stM 1 X1 = g.1 3 + 0; omega)) dl_nil)) gd_nil hH1 (bok_fr hE hF1 rfl) hF1)
  have em : menK X1 = menN X := by
    unfold menK menN
    rw [(hF1 0 25 rfl).1]
    omega
  have eb : menN X ≤ 6 := by
    unfold menN
    omega
  have c0 := cntM_cg (a := 12) (o := 0) (b := 44) (q := 6 * 2) (s := 0) (X := X) (Y := X1) (menN X) (fun i hi => (hF1 11 i rfl).1) (fun i hi => (hc i (by omega)).trans (by rw [Nat.zero_add]))
  have n0 := stM_n (s := 0) (X := X) (by omega)
  have c1 := cntM_cg (a := 12) (o := 0) (b := 44) (q := 6 * 2) (s := 1) (X := X) (Y := X1) (menN X) (fun i hi => (hF1 11 i rfl).1) (fun i hi => (hc i (by omega)).trans (by rw [Nat.zero_add]))
  have n1 := stM_n (s := 1) (X := X) (by omega)
  have k1 : kpM 2 X1 = 1 := kpM_1 (by rw [em, c0]; exact n0) (by rw [em, c1]; exact n1)
  exact (altM_mk 0 [1] rfl (ei_cons ⟨by show (0 : Int) ≤ g.1 0; omega, by show g.1 0 ≤ (0 : Int); omega⟩ (ei_cons ⟨by show (2 : Int) ≤ g.1 1; omega, by show g.1 1 ≤ (2 : Int); omega⟩ (ei_cons ⟨by show (1 : Int) ≤ g.1 2; omega, by show g.1 2 ≤ (1 : Int); omega⟩ (ei_cons ⟨by show (1 : Int) ≤ g.1 3; omega, by show g.1 3 ≤ (1 : Int); omega⟩ (ei_cons ⟨by show (0 : Int) ≤ g.1 4; omega, by show g.1 4 ≤ (6 : Int); omega⟩ (ei_cons ⟨by show (1 : Int) ≤ 1; omega, by show 1 ≤ (1 : Int); omega⟩ ei_nil)))))) el_nil (by rfl) (dl_cons (gh_mk rfl (by show stM 0 X1 = g.1 2 + 0; omega)) (dl_cons (gh_mk rfl (by show stM 1 X1 = g.1 3 + 0; omega)) (dl_cons (gh_mk rfl (by show kpM 2 X1 = (1 : Int) + 0; omega)) dl_nil))) gd_nil hH1 (bok_fr hE hF1 rfl) hF1)
set_option maxHeartbeats 4000000 in
set_option maxRecDepth 100000 in
theorem lq_backTo0 {D : va_G} {ad : Nat → Nat} {cA : Nat → ClassId} {X0 : XT} {E : ET} {rm : Room} (C : CX E (wM D ad cA) cX12_backTo 3 RX12 none rm) (hQ : EQ E (wM D ad cA) (fun r X => r = none ∧ HG vM X ∧ FR (cMd k_M_182) X0 X ∧ (∀ j : Nat, (j : Int) < 6 → X.1 12 j = X0.1 44 (6 * 0 + j)))) : ∀ (n : Nat) (i : Int) (X : XT), 6 - i < n → 0 ≤ i → i ≤ 6 → HG vM X → FR (cMd k_M_182) X0 X → (∀ j : Nat, (j : Int) < i → X.1 12 j = X0.1 44 (6 * 0 + j)) → Wx E (wM D ad cA) 3 (PX (wM D ad cA) X) 2 [(2, .int (iI (i))), (0, .ref 0), (1, .int (iI (0)))] [] := by
  intro n
  induction n with
  | zero => intro i X hn i0 i1 hH hF hc; exfalso; omega
  | succ n ih =>
    intro i X hn i0 i1 hH hF hc
    refine x_iload_n (i := 2) C dX12_backTo_2 rfl rfl ?_
    refine x_bipush C dX12_backTo_3 (by decide) ?_
    refine x_icmp_ge (tgt := 31) C dX12_backTo_5 (by decide) ⟨by omega, by omega⟩ ⟨by omega, by omega⟩ (fun h1 => ?_) (fun h1 => ?_)
    · refine x_aload_n (i := 0) C dX12_backTo_31 rfl rfl ?_
      refine x_getRs (r := 13) C fkM_X12_47 (nlt rfl) rfl (HG.rR hH (k := 0) (i := 30) rfl rfl) dX12_backTo_32 ?_
      refine x_iconst C dX12_backTo_35 ?_
      refine x_aload_n (i := 0) C dX12_backTo_36 rfl rfl ?_
      refine x_getRs (r := 45) C fkM_X12_145 (nlt rfl) rfl (HG.rR hH (k := 0) (i := 70) rfl rfl) dX12_backTo_37 ?_
      refine x_iconst C dX12_backTo_40 ?_
      refine x_iload_n (i := 1) C dX12_backTo_41 rfl rfl ?_
      refine x_imul C dX12_backTo_42 ?_
      refine x_eq (b := 0) rfl ?_
      refine x_iald C (nlt rfl) rfl rfl (nle rfl) (by omega) (by omega) dX12_backTo_43 ?_
      refine x_gen (fun v2 ev2 => ?_)
      have qv2 : ((-1) : Int) ≤ v2 ∧ v2 ≤ (5 : Int) := by
        rw [ev2]
        exact hH.rA (k := 45) (n := 6) (p := ((-1), 5)) (nlt rfl) rfl (by decide +kernel) (by omega)
      refine x_iast C (nlt rfl) rfl rfl (nle rfl) (by omega) (by omega) dX12_backTo_44 ?_
      refine x_gX (fun Yy3 eYy3 => ?_)
      have hHy3 : HG vM Yy3 := by
        rw [eYy3]
        exact hg_wA hH (n := 2) (p := ((-1), 5)) (by decide +kernel) (by omega) ⟨by omega, by omega⟩
      have hFy3 : FR (cMd k_M_182) X0 Yy3 := by
        rw [eYy3]
        exact FR.upI hF (rfl)
      refine x_aload_n (i := 0) C dX12_backTo_45 rfl rfl ?_
      refine x_getRs (r := 13) C fkM_X12_47 (nlt rfl) rfl (HG.rR hHy3 (k := 0) (i := 30) rfl rfl) dX12_backTo_46 ?_
      refine x_iconst C dX12_backTo_49 ?_
      refine x_aload_n (i := 0) C dX12_backTo_50 rfl rfl ?_
      refine x_getRs (r := 45) C fkM_X12_145 (nlt rfl) rfl (HG.rR hHy3 (k := 0) (i := 70) rfl rfl) dX12_backTo_51 ?_
      refine x_iconst C dX12_backTo_54 ?_
      refine x_iload_n (i := 1) C dX12_backTo_55 rfl rfl ?_
      refine x_imul C dX12_backTo_56 ?_
      refine x_eq (b := 0) rfl ?_
      refine x_iconst C dX12_backTo_57 ?_
      refine x_iadd C dX12_backTo_58 ?_
      refine x_eq (b := 1) rfl ?_
      refine x_iald C (nlt rfl) rfl rfl (nle rfl) (by omega) (by omega) dX12_backTo_59 ?_
      refine x_gen (fun v4 ev4 => ?_)
      have qv4 : ((-1) : Int) ≤ v4 ∧ v4 ≤ (5 : Int) := by
        rw [ev4]
        exact hHy3.rA (k := 45) (n := 6) (p := ((-1), 5)) (nlt rfl) rfl (by decide +kernel) (by omega)
      refine x_iast C (nlt rfl) rfl rfl (nle rfl) (by omega) (by omega) dX12_backTo_60 ?_
      refine x_gX (fun Yy5 eYy5 => ?_)
      have hHy5 : HG vM Yy5 := by
        rw [eYy5]
        exact hg_wA hHy3 (n := 2) (p := ((-1), 5)) (by decide +kernel) (by omega) ⟨by omega, by omega⟩
      have hFy5 : FR (cMd k_M_182) X0 Yy5 := by
        rw [eYy5]
        exact FR.upI hFy3 (rfl)
      refine x_aload_n (i := 0) C dX12_backTo_61 rfl rfl ?_
      refine x_aload_n (i := 0) C dX12_backTo_62 rfl rfl ?_
      refine x_getRs (r := 46) C fkM_X12_148 (nlt rfl) rfl (HG.rR hHy5 (k := 0) (i := 71) rfl rfl) dX12_backTo_63 ?_
      refine x_iload_n (i := 1) C dX12_backTo_66 rfl rfl ?_
      refine x_iald C (nlt rfl) rfl rfl (nle rfl) (by omega) (by omega) dX12_backTo_67 ?_
      refine x_gen (fun v6 ev6 => ?_)
      have qv6 : (0 : Int) ≤ v6 ∧ v6 ≤ (1 : Int) := by
        rw [ev6]
        exact hHy5.rA (k := 46) (n := 3) (p := (0, 1)) (nlt rfl) rfl (by decide +kernel) (by omega)
      refine x_putI C pkM_X12_296 (nlt rfl) rfl dX12_backTo_68 ?_
      refine x_gX (fun Yy7 eYy7 => ?_)
      have hHy7 : HG vM Yy7 := by
        rw [eYy7]
        exact hg_wF hHy5 (p := (0, 1)) rfl ⟨by omega, by omega⟩
      have hFy7 : FR (cMd k_M_182) X0 Yy7 := by
        rw [eYy7]
        exact FR.upI hFy5 (rfl)
      exact x_vret C hQ dX12_backTo_71 (⟨rfl, hHy7, hFy7, fun j hj => by rw [eYy7, eYy5, eYy3]; exact hc j (by omega)⟩)
    · refine x_aload_n (i := 0) C dX12_backTo_8 rfl rfl ?_
      refine x_getRs (r := 12) C fkM_X12_44 (nlt rfl) rfl (HG.rR hH (k := 0) (i := 29) rfl rfl) dX12_backTo_9 ?_
      refine x_iload_n (i := 2) C dX12_backTo_12 rfl rfl ?_
      refine x_aload_n (i := 0) C dX12_backTo_13 rfl rfl ?_
      refine x_getRs (r := 44) C fkM_X12_142 (nlt rfl) rfl (HG.rR hH (k := 0) (i := 69) rfl rfl) dX12_backTo_14 ?_
      refine x_bipush C dX12_backTo_17 (by decide) ?_
      refine x_iload_n (i := 1) C dX12_backTo_19 rfl rfl ?_
      refine x_imul C dX12_backTo_20 ?_
      refine x_eq (b := 0) rfl ?_
      refine x_iload_n (i := 2) C dX12_backTo_21 rfl rfl ?_
      refine x_iadd C dX12_backTo_22 ?_
      refine x_iald C (nlt rfl) rfl rfl (nle rfl) (by omega) (by omega) dX12_backTo_23 ?_
      refine x_gen (fun v8 ev8 => ?_)
      have qv8 : ((-1) : Int) ≤ v8 ∧ v8 ≤ (35 : Int) := by
        rw [ev8]
        exact hH.rA (k := 44) (n := 18) (p := ((-1), 35)) (nlt rfl) rfl (by decide +kernel) (by omega)
      refine x_iast C (nlt rfl) rfl rfl (nle rfl) (by omega) (by omega) dX12_backTo_24 ?_
      refine x_gX (fun Yy9 eYy9 => ?_)
      have hHy9 : HG vM Yy9 := by
        rw [eYy9]
        exact hg_wA hH (n := 7) (p := ((-1), 35)) (by decide +kernel) (by omega) ⟨by omega, by omega⟩
      have hFy9 : FR (cMd k_M_182) X0 Yy9 := by
        rw [eYy9]
        exact FR.upI hF (rfl)
      refine x_iinc (lv' := [(2, .int (iI (i + 1))), (0, .ref 0), (1, .int (iI (0)))]) C dX12_backTo_25 rfl (nlt rfl) rfl ?_
      refine x_goto (tgt := 2) C dX12_backTo_28 (by decide) ?_
      refine ih _ _ (by omega) (by omega) (by omega) hHy9 hFy9 (fun j hj => ?_)
      rw [eYy9]
      by_cases ej : j = i.toNat
      · subst ej
        rw [upI_at, ev8, show (0 + i).toNat = 6 * 0 + i.toNat by omega]
        exact (hF 44 _ rfl).1
      · rw [upI_ne (by omega)]
        exact hc j (by omega)
set_option maxHeartbeats 4000000 in
set_option maxRecDepth 100000 in
theorem q_backTo0 {D : va_G} {ad : Nat → Nat} {cA : Nat → ClassId} {X : XT} (hH : HG vM X) : MetX (wM D ad cA) yX12_backTo cX12_backTo 3 none 0 0 [.ref 0, .int (iI (0))] X (fun r X1 => r = none ∧ HG vM X1 ∧ FR (cMd k_M_182) X X1 ∧ (∀ j : Nat, (j : Int) < 6 → X1.1 12 j = X.1 44 (6 * 0 + j))) := by
  refine MetX.mk (own := RX12) (by decide +kernel) rfl (nle rfl) (fun E C hQ => ?_)
  refine Wx_lv (lv' := [(0, .ref 0), (1, .int (iI (0)))]) rfl ?_
  refine x_iconst C dX12_backTo_0 ?_
  refine x_istore_n (i := 2) (lv' := [(2, .int (iI (0))), (0, .ref 0), (1, .int (iI (0)))]) C dX12_backTo_1 rfl (nlt rfl) rfl ?_
  exact lq_backTo0 (X0 := X) C hQ 700 0 X (by omega) (by omega) (by omega) hH FR.rf (fun j hj => by omega)
set_option maxRecDepth 10000 in
theorem t_M_182 {D : va_G} {ad : Nat → Nat} {cA : Nat → ClassId} : CTR mtM vM gM (wM D ad cA) k_M_182 := by
  intro g X hpre
  obtain ⟨h00, hei, hel, hdl, hH, hE⟩ := hpre
  have h0 : (0 : Int) ≤ g.1 0 ∧ g.1 0 ≤ (0 : Int) := hei 0 _ rfl
  have h1 : (0 : Int) ≤ g.1 1 ∧ g.1 1 ≤ (0 : Int) := hei 1 _ rfl
  have h2 : (0 : Int) ≤ g.1 2 ∧ g.1 2 ≤ (1 : Int) := hei 2 _ rfl
  have e0 : kpM 0 X = g.1 2 + 0 := gh_at rfl (hdl ((902, 0), (0, 2, 0)) (.head _))
  have ea : (cAr k_M_182).map (dn g) = [.ref 0, .int (iI 0)] := by
    show [_, Value.int (iI (g.1 1 + 0))] = _
    rw [show g.1 1 + 0 = 0 by omega]
    rfl
  rw [ea]
  refine MetX.imp (fun r X1 hp => ?_) (q_backTo0 (X := X) hH)
  obtain ⟨rfl, hH1, hF1, hc⟩ := hp
  have t0 : kpM 0 X1 = kpM 0 X := kpM_cg (hF1 0 25 rfl).1 (fun i _ => (hF1 11 i rfl).1) (fun i _ => (hF1 44 _ rfl).1)
  by_cases z0 : g.1 2 = 0
  · exact (altM_mk 1 [] rfl (ei_cons ⟨by show (0 : Int) ≤ g.1 0; omega, by show g.1 0 ≤ (0 : Int); omega⟩ (ei_cons ⟨by show (0 : Int) ≤ g.1 1; omega, by show g.1 1 ≤ (0 : Int); omega⟩ (ei_cons ⟨by show (0 : Int) ≤ g.1 2; omega, by show g.1 2 ≤ (0 : Int); omega⟩ ei_nil))) el_nil (by rfl) dl_nil gd_nil hH1 (bok_fr hE hF1 rfl) hF1)
  have kn := kpM_n (d := 0) (X := X) (by omega)
  have eb : menK X ≤ menN X1 := by
    unfold menN menK
    rw [(hF1 0 25 rfl).1]
    omega
  have e6 : menK X ≤ 6 := Nat.min_le_right _ _
  have c0 := cntM_cg (a := 44) (o := 6 * 0) (b := 12) (q := 0) (s := 0) (X := X) (Y := X1) (menK X) (fun i hi => (hF1 11 i rfl).1) (fun i hi => (show X1.1 12 (0 + i) = X1.1 12 i by rw [Nat.zero_add]).trans (hc i (by omega)))
  have n0 := cntM_mono (a := 12) (o := 0) (s := 0) (X := X1) (n := menK X) (menN X1) eb
  have b0 := (cntM_bd (a := 12) (o := 0) (s := 0) (X := X1) (menK X)).1
  have k0 := kn.1
  rw [← c0] at k0
  have s0 := stM_1 (s := 0) (X := X1) (by omega)
  have c1 := cntM_cg (a := 44) (o := 6 * 0) (b := 12) (q := 0) (s := 1) (X := X) (Y := X1) (menK X) (fun i hi => (hF1 11 i rfl).1) (fun i hi => (show X1.1 12 (0 + i) = X1.1 12 i by rw [Nat.zero_add]).trans (hc i (by omega)))
  have n1 := cntM_mono (a := 12) (o := 0) (s := 1) (X := X1) (n := menK X) (menN X1) eb
  have b1 := (cntM_bd (a := 12) (o := 0) (s := 1) (X := X1) (menK X)).1
  have k1 := kn.2
  rw [← c1] at k1
  have s1 := stM_1 (s := 1) (X := X1) (by omega)
  exact (altM_mk 0 [1, 1] rfl (ei_cons ⟨by show (0 : Int) ≤ g.1 0; omega, by show g.1 0 ≤ (0 : Int); omega⟩ (ei_cons ⟨by show (0 : Int) ≤ g.1 1; omega, by show g.1 1 ≤ (0 : Int); omega⟩ (ei_cons ⟨by show (1 : Int) ≤ g.1 2; omega, by show g.1 2 ≤ (1 : Int); omega⟩ (ei_cons ⟨by show (1 : Int) ≤ 1; omega, by show 1 ≤ (1 : Int); omega⟩ (ei_cons ⟨by show (1 : Int) ≤ 1; omega, by show 1 ≤ (1 : Int); omega⟩ ei_nil))))) el_nil (by rfl) (dl_cons (gh_mk rfl (by show stM 0 X1 = (1 : Int) + 0; omega)) (dl_cons (gh_mk rfl (by show stM 1 X1 = (1 : Int) + 0; omega)) (dl_cons (gh_mk rfl (by show kpM 0 X1 = g.1 2 + 0; omega)) dl_nil))) gd_nil hH1 (bok_fr hE hF1 rfl) hF1)
set_option maxHeartbeats 4000000 in
set_option maxRecDepth 100000 in
theorem lq_backTo1 {D : va_G} {ad : Nat → Nat} {cA : Nat → ClassId} {X0 : XT} {E : ET} {rm : Room} (C : CX E (wM D ad cA) cX12_backTo 3 RX12 none rm) (hQ : EQ E (wM D ad cA) (fun r X => r = none ∧ HG vM X ∧ FR (cMd k_M_187) X0 X ∧ (∀ j : Nat, (j : Int) < 6 → X.1 12 j = X0.1 44 (6 * 1 + j)))) : ∀ (n : Nat) (i : Int) (X : XT), 6 - i < n → 0 ≤ i → i ≤ 6 → HG vM X → FR (cMd k_M_187) X0 X → (∀ j : Nat, (j : Int) < i → X.1 12 j = X0.1 44 (6 * 1 + j)) → Wx E (wM D ad cA) 3 (PX (wM D ad cA) X) 2 [(2, .int (iI (i))), (0, .ref 0), (1, .int (iI (1)))] [] := by
  intro n
  induction n with
  | zero => intro i X hn i0 i1 hH hF hc; exfalso; omega
  | succ n ih =>
    intro i X hn i0 i1 hH hF hc
    refine x_iload_n (i := 2) C dX12_backTo_2 rfl rfl ?_
    refine x_bipush C dX12_backTo_3 (by decide) ?_
    refine x_icmp_ge (tgt := 31) C dX12_backTo_5 (by decide) ⟨by omega, by omega⟩ ⟨by omega, by omega⟩ (fun h1 => ?_) (fun h1 => ?_)
    · refine x_aload_n (i := 0) C dX12_backTo_31 rfl rfl ?_
      refine x_getRs (r := 13) C fkM_X12_47 (nlt rfl) rfl (HG.rR hH (k := 0) (i := 30) rfl rfl) dX12_backTo_32 ?_
      refine x_iconst C dX12_backTo_35 ?_
      refine x_aload_n (i := 0) C dX12_backTo_36 rfl rfl ?_
      refine x_getRs (r := 45) C fkM_X12_145 (nlt rfl) rfl (HG.rR hH (k := 0) (i := 70) rfl rfl) dX12_backTo_37 ?_
      refine x_iconst C dX12_backTo_40 ?_
      refine x_iload_n (i := 1) C dX12_backTo_41 rfl rfl ?_
      refine x_imul C dX12_backTo_42 ?_
      refine x_eq (b := 2) rfl ?_
      refine x_iald C (nlt rfl) rfl rfl (nle rfl) (by omega) (by omega) dX12_backTo_43 ?_
      refine x_gen (fun v2 ev2 => ?_)
      have qv2 : ((-1) : Int) ≤ v2 ∧ v2 ≤ (5 : Int) := by
        rw [ev2]
        exact hH.rA (k := 45) (n := 6) (p := ((-1), 5)) (nlt rfl) rfl (by decide +kernel) (by omega)
      refine x_iast C (nlt rfl) rfl rfl (nle rfl) (by omega) (by omega) dX12_backTo_44 ?_
      refine x_gX (fun Yy3 eYy3 => ?_)
      have hHy3 : HG vM Yy3 := by
        rw [eYy3]
        exact hg_wA hH (n := 2) (p := ((-1), 5)) (by decide +kernel) (by omega) ⟨by omega, by omega⟩
      have hFy3 : FR (cMd k_M_187) X0 Yy3 := by
        rw [eYy3]
        exact FR.upI hF (rfl)
      refine x_aload_n (i := 0) C dX12_backTo_45 rfl rfl ?_
      refine x_getRs (r := 13) C fkM_X12_47 (nlt rfl) rfl (HG.rR hHy3 (k := 0) (i := 30) rfl rfl) dX12_backTo_46 ?_
      refine x_iconst C dX12_backTo_49 ?_
      refine x_aload_n (i := 0) C dX12_backTo_50 rfl rfl ?_
      refine x_getRs (r := 45) C fkM_X12_145 (nlt rfl) rfl (HG.rR hHy3 (k := 0) (i := 70) rfl rfl) dX12_backTo_51 ?_
      refine x_iconst C dX12_backTo_54 ?_
      refine x_iload_n (i := 1) C dX12_backTo_55 rfl rfl ?_
      refine x_imul C dX12_backTo_56 ?_
      refine x_eq (b := 2) rfl ?_
      refine x_iconst C dX12_backTo_57 ?_
      refine x_iadd C dX12_backTo_58 ?_
      refine x_eq (b := 3) rfl ?_
      refine x_iald C (nlt rfl) rfl rfl (nle rfl) (by omega) (by omega) dX12_backTo_59 ?_
      refine x_gen (fun v4 ev4 => ?_)
      have qv4 : ((-1) : Int) ≤ v4 ∧ v4 ≤ (5 : Int) := by
        rw [ev4]
        exact hHy3.rA (k := 45) (n := 6) (p := ((-1), 5)) (nlt rfl) rfl (by decide +kernel) (by omega)
      refine x_iast C (nlt rfl) rfl rfl (nle rfl) (by omega) (by omega) dX12_backTo_60 ?_
      refine x_gX (fun Yy5 eYy5 => ?_)
      have hHy5 : HG vM Yy5 := by
        rw [eYy5]
        exact hg_wA hHy3 (n := 2) (p := ((-1), 5)) (by decide +kernel) (by omega) ⟨by omega, by omega⟩
      have hFy5 : FR (cMd k_M_187) X0 Yy5 := by
        rw [eYy5]
        exact FR.upI hFy3 (rfl)
      refine x_aload_n (i := 0) C dX12_backTo_61 rfl rfl ?_
      refine x_aload_n (i := 0) C dX12_backTo_62 rfl rfl ?_
      refine x_getRs (r := 46) C fkM_X12_148 (nlt rfl) rfl (HG.rR hHy5 (k := 0) (i := 71) rfl rfl) dX12_backTo_63 ?_
      refine x_iload_n (i := 1) C dX12_backTo_66 rfl rfl ?_
      refine x_iald C (nlt rfl) rfl rfl (nle rfl) (by omega) (by omega) dX12_backTo_67 ?_
      refine x_gen (fun v6 ev6 => ?_)
      have qv6 : (0 : Int) ≤ v6 ∧ v6 ≤ (1 : Int) := by
        rw [ev6]
        exact hHy5.rA (k := 46) (n := 3) (p := (0, 1)) (nlt rfl) rfl (by decide +kernel) (by omega)
      refine x_putI C pkM_X12_296 (nlt rfl) rfl dX12_backTo_68 ?_
      refine x_gX (fun Yy7 eYy7 => ?_)
      have hHy7 : HG vM Yy7 := by
        rw [eYy7]
        exact hg_wF hHy5 (p := (0, 1)) rfl ⟨by omega, by omega⟩
      have hFy7 : FR (cMd k_M_187) X0 Yy7 := by
        rw [eYy7]
        exact FR.upI hFy5 (rfl)
      exact x_vret C hQ dX12_backTo_71 (⟨rfl, hHy7, hFy7, fun j hj => by rw [eYy7, eYy5, eYy3]; exact hc j (by omega)⟩)
    · refine x_aload_n (i := 0) C dX12_backTo_8 rfl rfl ?_
      refine x_getRs (r := 12) C fkM_X12_44 (nlt rfl) rfl (HG.rR hH (k := 0) (i := 29) rfl rfl) dX12_backTo_9 ?_
      refine x_iload_n (i := 2) C dX12_backTo_12 rfl rfl ?_
      refine x_aload_n (i := 0) C dX12_backTo_13 rfl rfl ?_
      refine x_getRs (r := 44) C fkM_X12_142 (nlt rfl) rfl (HG.rR hH (k := 0) (i := 69) rfl rfl) dX12_backTo_14 ?_
      refine x_bipush C dX12_backTo_17 (by decide) ?_
      refine x_iload_n (i := 1) C dX12_backTo_19 rfl rfl ?_
      refine x_imul C dX12_backTo_20 ?_
      refine x_eq (b := 6) rfl ?_
      refine x_iload_n (i := 2) C dX12_backTo_21 rfl rfl ?_
      refine x_iadd C dX12_backTo_22 ?_
      refine x_iald C (nlt rfl) rfl rfl (nle rfl) (by omega) (by omega) dX12_backTo_23 ?_
      refine x_gen (fun v8 ev8 => ?_)
      have qv8 : ((-1) : Int) ≤ v8 ∧ v8 ≤ (35 : Int) := by
        rw [ev8]
        exact hH.rA (k := 44) (n := 18) (p := ((-1), 35)) (nlt rfl) rfl (by decide +kernel) (by omega)
      refine x_iast C (nlt rfl) rfl rfl (nle rfl) (by omega) (by omega) dX12_backTo_24 ?_
      refine x_gX (fun Yy9 eYy9 => ?_)
      have hHy9 : HG vM Yy9 := by
        rw [eYy9]
        exact hg_wA hH (n := 7) (p := ((-1), 35)) (by decide +kernel) (by omega) ⟨by omega, by omega⟩
      have hFy9 : FR (cMd k_M_187) X0 Yy9 := by
        rw [eYy9]
        exact FR.upI hF (rfl)
      refine x_iinc (lv' := [(2, .int (iI (i + 1))), (0, .ref 0), (1, .int (iI (1)))]) C dX12_backTo_25 rfl (nlt rfl) rfl ?_
      refine x_goto (tgt := 2) C dX12_backTo_28 (by decide) ?_
      refine ih _ _ (by omega) (by omega) (by omega) hHy9 hFy9 (fun j hj => ?_)
      rw [eYy9]
      by_cases ej : j = i.toNat
      · subst ej
        rw [upI_at, ev8, show (6 + i).toNat = 6 * 1 + i.toNat by omega]
        exact (hF 44 _ rfl).1
      · rw [upI_ne (by omega)]
        exact hc j (by omega)
set_option maxHeartbeats 4000000 in
set_option maxRecDepth 100000 in
theorem q_backTo1 {D : va_G} {ad : Nat → Nat} {cA : Nat → ClassId} {X : XT} (hH : HG vM X) : MetX (wM D ad cA) yX12_backTo cX12_backTo 3 none 0 0 [.ref 0, .int (iI (1))] X (fun r X1 => r = none ∧ HG vM X1 ∧ FR (cMd k_M_187) X X1 ∧ (∀ j : Nat, (j : Int) < 6 → X1.1 12 j = X.1 44 (6 * 1 + j))) := by
  refine MetX.mk (own := RX12) (by decide +kernel) rfl (nle rfl) (fun E C hQ => ?_)
  refine Wx_lv (lv' := [(0, .ref 0), (1, .int (iI (1)))]) rfl ?_
  refine x_iconst C dX12_backTo_0 ?_
  refine x_istore_n (i := 2) (lv' := [(2, .int (iI (0))), (0, .ref 0), (1, .int (iI (1)))]) C dX12_backTo_1 rfl (nlt rfl) rfl ?_
  exact lq_backTo1 (X0 := X) C hQ 700 0 X (by omega) (by omega) (by omega) hH FR.rf (fun j hj => by omega)
set_option maxRecDepth 10000 in
theorem t_M_187 {D : va_G} {ad : Nat → Nat} {cA : Nat → ClassId} : CTR mtM vM gM (wM D ad cA) k_M_187 := by
  intro g X hpre
  obtain ⟨h00, hei, hel, hdl, hH, hE⟩ := hpre
  have h0 : (0 : Int) ≤ g.1 0 ∧ g.1 0 ≤ (0 : Int) := hei 0 _ rfl
  have h1 : (1 : Int) ≤ g.1 1 ∧ g.1 1 ≤ (1 : Int) := hei 1 _ rfl
  have h2 : (0 : Int) ≤ g.1 2 ∧ g.1 2 ≤ (1 : Int) := hei 2 _ rfl
  have e0 : kpM 1 X = g.1 2 + 0 := gh_at rfl (hdl ((903, 0), (0, 2, 0)) (.head _))
  have ea : (cAr k_M_187).map (dn g) = [.ref 0, .int (iI 1)] := by
    show [_, Value.int (iI (g.1 1 + 0))] = _
    rw [show g.1 1 + 0 = 1 by omega]
    rfl
  rw [ea]
  refine MetX.imp (fun r X1 hp => ?_) (q_backTo1 (X := X) hH)
  obtain ⟨rfl, hH1, hF1, hc⟩ := hp
  have t0 : kpM 1 X1 = kpM 1 X := kpM_cg (hF1 0 25 rfl).1 (fun i _ => (hF1 11 i rfl).1) (fun i _ => (hF1 44 _ rfl).1)
  by_cases z0 : g.1 2 = 0
  · exact (altM_mk 1 [] rfl (ei_cons ⟨by show (0 : Int) ≤ g.1 0; omega, by show g.1 0 ≤ (0 : Int); omega⟩ (ei_cons ⟨by show (1 : Int) ≤ g.1 1; omega, by show g.1 1 ≤ (1 : Int); omega⟩ (ei_cons ⟨by show (0 : Int) ≤ g.1 2; omega, by show g.1 2 ≤ (0 : Int); omega⟩ ei_nil))) el_nil (by rfl) dl_nil gd_nil hH1 (bok_fr hE hF1 rfl) hF1)
  have kn := kpM_n (d := 1) (X := X) (by omega)
  have eb : menK X ≤ menN X1 := by
    unfold menN menK
    rw [(hF1 0 25 rfl).1]
    omega
  have e6 : menK X ≤ 6 := Nat.min_le_right _ _
  have c0 := cntM_cg (a := 44) (o := 6 * 1) (b := 12) (q := 0) (s := 0) (X := X) (Y := X1) (menK X) (fun i hi => (hF1 11 i rfl).1) (fun i hi => (show X1.1 12 (0 + i) = X1.1 12 i by rw [Nat.zero_add]).trans (hc i (by omega)))
  have n0 := cntM_mono (a := 12) (o := 0) (s := 0) (X := X1) (n := menK X) (menN X1) eb
  have b0 := (cntM_bd (a := 12) (o := 0) (s := 0) (X := X1) (menK X)).1
  have k0 := kn.1
  rw [← c0] at k0
  have s0 := stM_1 (s := 0) (X := X1) (by omega)
  have c1 := cntM_cg (a := 44) (o := 6 * 1) (b := 12) (q := 0) (s := 1) (X := X) (Y := X1) (menK X) (fun i hi => (hF1 11 i rfl).1) (fun i hi => (show X1.1 12 (0 + i) = X1.1 12 i by rw [Nat.zero_add]).trans (hc i (by omega)))
  have n1 := cntM_mono (a := 12) (o := 0) (s := 1) (X := X1) (n := menK X) (menN X1) eb
  have b1 := (cntM_bd (a := 12) (o := 0) (s := 1) (X := X1) (menK X)).1
  have k1 := kn.2
  rw [← c1] at k1
  have s1 := stM_1 (s := 1) (X := X1) (by omega)
  exact (altM_mk 0 [1, 1] rfl (ei_cons ⟨by show (0 : Int) ≤ g.1 0; omega, by show g.1 0 ≤ (0 : Int); omega⟩ (ei_cons ⟨by show (1 : Int) ≤ g.1 1; omega, by show g.1 1 ≤ (1 : Int); omega⟩ (ei_cons ⟨by show (1 : Int) ≤ g.1 2; omega, by show g.1 2 ≤ (1 : Int); omega⟩ (ei_cons ⟨by show (1 : Int) ≤ 1; omega, by show 1 ≤ (1 : Int); omega⟩ (ei_cons ⟨by show (1 : Int) ≤ 1; omega, by show 1 ≤ (1 : Int); omega⟩ ei_nil))))) el_nil (by rfl) (dl_cons (gh_mk rfl (by show stM 0 X1 = (1 : Int) + 0; omega)) (dl_cons (gh_mk rfl (by show stM 1 X1 = (1 : Int) + 0; omega)) (dl_cons (gh_mk rfl (by show kpM 1 X1 = g.1 2 + 0; omega)) dl_nil))) gd_nil hH1 (bok_fr hE hF1 rfl) hF1)
set_option maxHeartbeats 4000000 in
set_option maxRecDepth 100000 in
theorem lq_backTo2 {D : va_G} {ad : Nat → Nat} {cA : Nat → ClassId} {X0 : XT} {E : ET} {rm : Room} (C : CX E (wM D ad cA) cX12_backTo 3 RX12 none rm) (hQ : EQ E (wM D ad cA) (fun r X => r = none ∧ HG vM X ∧ FR (cMd k_M_191) X0 X ∧ (∀ j : Nat, (j : Int) < 6 → X.1 12 j = X0.1 44 (6 * 2 + j)))) : ∀ (n : Nat) (i : Int) (X : XT), 6 - i < n → 0 ≤ i → i ≤ 6 → HG vM X → FR (cMd k_M_191) X0 X → (∀ j : Nat, (j : Int) < i → X.1 12 j = X0.1 44 (6 * 2 + j)) → Wx E (wM D ad cA) 3 (PX (wM D ad cA) X) 2 [(2, .int (iI (i))), (0, .ref 0), (1, .int (iI (2)))] [] := by
  intro n
  induction n with
  | zero => intro i X hn i0 i1 hH hF hc; exfalso; omega
  | succ n ih =>
    intro i X hn i0 i1 hH hF hc
    refine x_iload_n (i := 2) C dX12_backTo_2 rfl rfl ?_
    refine x_bipush C dX12_backTo_3 (by decide) ?_
    refine x_icmp_ge (tgt := 31) C dX12_backTo_5 (by decide) ⟨by omega, by omega⟩ ⟨by omega, by omega⟩ (fun h1 => ?_) (fun h1 => ?_)
    · refine x_aload_n (i := 0) C dX12_backTo_31 rfl rfl ?_
      refine x_getRs (r := 13) C fkM_X12_47 (nlt rfl) rfl (HG.rR hH (k := 0) (i := 30) rfl rfl) dX12_backTo_32 ?_
      refine x_iconst C dX12_backTo_35 ?_
      refine x_aload_n (i := 0) C dX12_backTo_36 rfl rfl ?_
      refine x_getRs (r := 45) C fkM_X12_145 (nlt rfl) rfl (HG.rR hH (k := 0) (i := 70) rfl rfl) dX12_backTo_37 ?_
      refine x_iconst C dX12_backTo_40 ?_
      refine x_iload_n (i := 1) C dX12_backTo_41 rfl rfl ?_
      refine x_imul C dX12_backTo_42 ?_
      refine x_eq (b := 4) rfl ?_
      refine x_iald C (nlt rfl) rfl rfl (nle rfl) (by omega) (by omega) dX12_backTo_43 ?_
      refine x_gen (fun v2 ev2 => ?_)
      have qv2 : ((-1) : Int) ≤ v2 ∧ v2 ≤ (5 : Int) := by
        rw [ev2]
        exact hH.rA (k := 45) (n := 6) (p := ((-1), 5)) (nlt rfl) rfl (by decide +kernel) (by omega)
      refine x_iast C (nlt rfl) rfl rfl (nle rfl) (by omega) (by omega) dX12_backTo_44 ?_
      refine x_gX (fun Yy3 eYy3 => ?_)
      have hHy3 : HG vM Yy3 := by
        rw [eYy3]
        exact hg_wA hH (n := 2) (p := ((-1), 5)) (by decide +kernel) (by omega) ⟨by omega, by omega⟩
      have hFy3 : FR (cMd k_M_191) X0 Yy3 := by
        rw [eYy3]
        exact FR.upI hF (rfl)
      refine x_aload_n (i := 0) C dX12_backTo_45 rfl rfl ?_
      refine x_getRs (r := 13) C fkM_X12_47 (nlt rfl) rfl (HG.rR hHy3 (k := 0) (i := 30) rfl rfl) dX12_backTo_46 ?_
      refine x_iconst C dX12_backTo_49 ?_
      refine x_aload_n (i := 0) C dX12_backTo_50 rfl rfl ?_
      refine x_getRs (r := 45) C fkM_X12_145 (nlt rfl) rfl (HG.rR hHy3 (k := 0) (i := 70) rfl rfl) dX12_backTo_51 ?_
      refine x_iconst C dX12_backTo_54 ?_
      refine x_iload_n (i := 1) C dX12_backTo_55 rfl rfl ?_
      refine x_imul C dX12_backTo_56 ?_
      refine x_eq (b := 4) rfl ?_
      refine x_iconst C dX12_backTo_57 ?_
      refine x_iadd C dX12_backTo_58 ?_
      refine x_eq (b := 5) rfl ?_
      refine x_iald C (nlt rfl) rfl rfl (nle rfl) (by omega) (by omega) dX12_backTo_59 ?_
      refine x_gen (fun v4 ev4 => ?_)
      have qv4 : ((-1) : Int) ≤ v4 ∧ v4 ≤ (5 : Int) := by
        rw [ev4]
        exact hHy3.rA (k := 45) (n := 6) (p := ((-1), 5)) (nlt rfl) rfl (by decide +kernel) (by omega)
      refine x_iast C (nlt rfl) rfl rfl (nle rfl) (by omega) (by omega) dX12_backTo_60 ?_
      refine x_gX (fun Yy5 eYy5 => ?_)
      have hHy5 : HG vM Yy5 := by
        rw [eYy5]
        exact hg_wA hHy3 (n := 2) (p := ((-1), 5)) (by decide +kernel) (by omega) ⟨by omega, by omega⟩
      have hFy5 : FR (cMd k_M_191) X0 Yy5 := by
        rw [eYy5]
        exact FR.upI hFy3 (rfl)
      refine x_aload_n (i := 0) C dX12_backTo_61 rfl rfl ?_
      refine x_aload_n (i := 0) C dX12_backTo_62 rfl rfl ?_
      refine x_getRs (r := 46) C fkM_X12_148 (nlt rfl) rfl (HG.rR hHy5 (k := 0) (i := 71) rfl rfl) dX12_backTo_63 ?_
      refine x_iload_n (i := 1) C dX12_backTo_66 rfl rfl ?_
      refine x_iald C (nlt rfl) rfl rfl (nle rfl) (by omega) (by omega) dX12_backTo_67 ?_
      refine x_gen (fun v6 ev6 => ?_)
      have qv6 : (0 : Int) ≤ v6 ∧ v6 ≤ (1 : Int) := by
        rw [ev6]
        exact hHy5.rA (k := 46) (n := 3) (p := (0, 1)) (nlt rfl) rfl (by decide +kernel) (by omega)
      refine x_putI C pkM_X12_296 (nlt rfl) rfl dX12_backTo_68 ?_
      refine x_gX (fun Yy7 eYy7 => ?_)
      have hHy7 : HG vM Yy7 := by
        rw [eYy7]
        exact hg_wF hHy5 (p := (0, 1)) rfl ⟨by omega, by omega⟩
      have hFy7 : FR (cMd k_M_191) X0 Yy7 := by
        rw [eYy7]
        exact FR.upI hFy5 (rfl)
      exact x_vret C hQ dX12_backTo_71 (⟨rfl, hHy7, hFy7, fun j hj => by rw [eYy7, eYy5, eYy3]; exact hc j (by omega)⟩)
    · refine x_aload_n (i := 0) C dX12_backTo_8 rfl rfl ?_
      refine x_getRs (r := 12) C fkM_X12_44 (nlt rfl) rfl (HG.rR hH (k := 0) (i := 29) rfl rfl) dX12_backTo_9 ?_
      refine x_iload_n (i := 2) C dX12_backTo_12 rfl rfl ?_
      refine x_aload_n (i := 0) C dX12_backTo_13 rfl rfl ?_
      refine x_getRs (r := 44) C fkM_X12_142 (nlt rfl) rfl (HG.rR hH (k := 0) (i := 69) rfl rfl) dX12_backTo_14 ?_
      refine x_bipush C dX12_backTo_17 (by decide) ?_
      refine x_iload_n (i := 1) C dX12_backTo_19 rfl rfl ?_
      refine x_imul C dX12_backTo_20 ?_
      refine x_eq (b := 12) rfl ?_
      refine x_iload_n (i := 2) C dX12_backTo_21 rfl rfl ?_
      refine x_iadd C dX12_backTo_22 ?_
      refine x_iald C (nlt rfl) rfl rfl (nle rfl) (by omega) (by omega) dX12_backTo_23 ?_
      refine x_gen (fun v8 ev8 => ?_)
      have qv8 : ((-1) : Int) ≤ v8 ∧ v8 ≤ (35 : Int) := by
        rw [ev8]
        exact hH.rA (k := 44) (n := 18) (p := ((-1), 35)) (nlt rfl) rfl (by decide +kernel) (by omega)
      refine x_iast C (nlt rfl) rfl rfl (nle rfl) (by omega) (by omega) dX12_backTo_24 ?_
      refine x_gX (fun Yy9 eYy9 => ?_)
      have hHy9 : HG vM Yy9 := by
        rw [eYy9]
        exact hg_wA hH (n := 7) (p := ((-1), 35)) (by decide +kernel) (by omega) ⟨by omega, by omega⟩
      have hFy9 : FR (cMd k_M_191) X0 Yy9 := by
        rw [eYy9]
        exact FR.upI hF (rfl)
      refine x_iinc (lv' := [(2, .int (iI (i + 1))), (0, .ref 0), (1, .int (iI (2)))]) C dX12_backTo_25 rfl (nlt rfl) rfl ?_
      refine x_goto (tgt := 2) C dX12_backTo_28 (by decide) ?_
      refine ih _ _ (by omega) (by omega) (by omega) hHy9 hFy9 (fun j hj => ?_)
      rw [eYy9]
      by_cases ej : j = i.toNat
      · subst ej
        rw [upI_at, ev8, show (12 + i).toNat = 6 * 2 + i.toNat by omega]
        exact (hF 44 _ rfl).1
      · rw [upI_ne (by omega)]
        exact hc j (by omega)
set_option maxHeartbeats 4000000 in
set_option maxRecDepth 100000 in
theorem q_backTo2 {D : va_G} {ad : Nat → Nat} {cA : Nat → ClassId} {X : XT} (hH : HG vM X) : MetX (wM D ad cA) yX12_backTo cX12_backTo 3 none 0 0 [.ref 0, .int (iI (2))] X (fun r X1 => r = none ∧ HG vM X1 ∧ FR (cMd k_M_191) X X1 ∧ (∀ j : Nat, (j : Int) < 6 → X1.1 12 j = X.1 44 (6 * 2 + j))) := by
  refine MetX.mk (own := RX12) (by decide +kernel) rfl (nle rfl) (fun E C hQ => ?_)
  refine Wx_lv (lv' := [(0, .ref 0), (1, .int (iI (2)))]) rfl ?_
  refine x_iconst C dX12_backTo_0 ?_
  refine x_istore_n (i := 2) (lv' := [(2, .int (iI (0))), (0, .ref 0), (1, .int (iI (2)))]) C dX12_backTo_1 rfl (nlt rfl) rfl ?_
  exact lq_backTo2 (X0 := X) C hQ 700 0 X (by omega) (by omega) (by omega) hH FR.rf (fun j hj => by omega)
set_option maxRecDepth 10000 in
theorem t_M_191 {D : va_G} {ad : Nat → Nat} {cA : Nat → ClassId} : CTR mtM vM gM (wM D ad cA) k_M_191 := by
  intro g X hpre
  obtain ⟨h00, hei, hel, hdl, hH, hE⟩ := hpre
  have h0 : (0 : Int) ≤ g.1 0 ∧ g.1 0 ≤ (0 : Int) := hei 0 _ rfl
  have h1 : (2 : Int) ≤ g.1 1 ∧ g.1 1 ≤ (2 : Int) := hei 1 _ rfl
  have h2 : (0 : Int) ≤ g.1 2 ∧ g.1 2 ≤ (1 : Int) := hei 2 _ rfl
  have e0 : kpM 2 X = g.1 2 + 0 := gh_at rfl (hdl ((904, 0), (0, 2, 0)) (.head _))
  have ea : (cAr k_M_191).map (dn g) = [.ref 0, .int (iI 2)] := by
    show [_, Value.int (iI (g.1 1 + 0))] = _
    rw [show g.1 1 + 0 = 2 by omega]
    rfl
  rw [ea]
  refine MetX.imp (fun r X1 hp => ?_) (q_backTo2 (X := X) hH)
  obtain ⟨rfl, hH1, hF1, hc⟩ := hp
  have t0 : kpM 2 X1 = kpM 2 X := kpM_cg (hF1 0 25 rfl).1 (fun i _ => (hF1 11 i rfl).1) (fun i _ => (hF1 44 _ rfl).1)
  by_cases z0 : g.1 2 = 0
  · exact (altM_mk 1 [] rfl (ei_cons ⟨by show (0 : Int) ≤ g.1 0; omega, by show g.1 0 ≤ (0 : Int); omega⟩ (ei_cons ⟨by show (2 : Int) ≤ g.1 1; omega, by show g.1 1 ≤ (2 : Int); omega⟩ (ei_cons ⟨by show (0 : Int) ≤ g.1 2; omega, by show g.1 2 ≤ (0 : Int); omega⟩ ei_nil))) el_nil (by rfl) dl_nil gd_nil hH1 (bok_fr hE hF1 rfl) hF1)
  have kn := kpM_n (d := 2) (X := X) (by omega)
  have eb : menK X ≤ menN X1 := by
    unfold menN menK
    rw [(hF1 0 25 rfl).1]
    omega
  have e6 : menK X ≤ 6 := Nat.min_le_right _ _
  have c0 := cntM_cg (a := 44) (o := 6 * 2) (b := 12) (q := 0) (s := 0) (X := X) (Y := X1) (menK X) (fun i hi => (hF1 11 i rfl).1) (fun i hi => (show X1.1 12 (0 + i) = X1.1 12 i by rw [Nat.zero_add]).trans (hc i (by omega)))
  have n0 := cntM_mono (a := 12) (o := 0) (s := 0) (X := X1) (n := menK X) (menN X1) eb
  have b0 := (cntM_bd (a := 12) (o := 0) (s := 0) (X := X1) (menK X)).1
  have k0 := kn.1
  rw [← c0] at k0
  have s0 := stM_1 (s := 0) (X := X1) (by omega)
  have c1 := cntM_cg (a := 44) (o := 6 * 2) (b := 12) (q := 0) (s := 1) (X := X) (Y := X1) (menK X) (fun i hi => (hF1 11 i rfl).1) (fun i hi => (show X1.1 12 (0 + i) = X1.1 12 i by rw [Nat.zero_add]).trans (hc i (by omega)))
  have n1 := cntM_mono (a := 12) (o := 0) (s := 1) (X := X1) (n := menK X) (menN X1) eb
  have b1 := (cntM_bd (a := 12) (o := 0) (s := 1) (X := X1) (menK X)).1
  have k1 := kn.2
  rw [← c1] at k1
  have s1 := stM_1 (s := 1) (X := X1) (by omega)
  exact (altM_mk 0 [1, 1] rfl (ei_cons ⟨by show (0 : Int) ≤ g.1 0; omega, by show g.1 0 ≤ (0 : Int); omega⟩ (ei_cons ⟨by show (2 : Int) ≤ g.1 1; omega, by show g.1 1 ≤ (2 : Int); omega⟩ (ei_cons ⟨by show (1 : Int) ≤ g.1 2; omega, by show g.1 2 ≤ (1 : Int); omega⟩ (ei_cons ⟨by show (1 : Int) ≤ 1; omega, by show 1 ≤ (1 : Int); omega⟩ (ei_cons ⟨by show (1 : Int) ≤ 1; omega, by show 1 ≤ (1 : Int); omega⟩ ei_nil))))) el_nil (by rfl) (dl_cons (gh_mk rfl (by show stM 0 X1 = (1 : Int) + 0; omega)) (dl_cons (gh_mk rfl (by show stM 1 X1 = (1 : Int) + 0; omega)) (dl_cons (gh_mk rfl (by show kpM 2 X1 = g.1 2 + 0; omega)) dl_nil))) gd_nil hH1 (bok_fr hE hF1 rfl) hF1)
set_option maxHeartbeats 4000000 in
set_option maxRecDepth 100000 in
theorem q_nextN {D : va_G} {ad : Nat → Nat} {cA : Nat → ClassId} {X : XT} {d : Int} (d0 : 0 ≤ d) (d1 : d ≤ 3) (hw : 2 ≤ X.1 0 22 ∧ X.1 0 22 ≤ 6) (hh : 2 ≤ X.1 0 23 ∧ X.1 0 23 ≤ 6) : MetX (wM D ad cA) yX12_next cX12_next 5 (some .int) 1 22 [.ref 0, .int (iI ((-1))), .int (iI (d))] X (fun r X' => X' = X ∧ ∃ u : Int, r = some (.int (iI u)) ∧ (u = -1 ∨ (0 ≤ u ∧ u ≤ 35))) := by
  refine MetX.mk (own := RX12) (by decide +kernel) rfl (nle rfl) (fun E C hQ => ?_)
  refine Wx_lv (lv' := [(0, .ref 0), (1, .int (iI ((-1)))), (2, .int (iI (d)))]) rfl ?_
  refine x_iload_n (i := 1) C dX12_next_0 rfl rfl ?_
  refine x_aload_n (i := 0) C dX12_next_1 rfl rfl ?_
  refine x_getI C fkM_X12_278 (nlt rfl) rfl dX12_next_2 ?_
  refine x_gen (fun v1 ev1 => ?_)
  have qv1 : (2 : Int) ≤ v1 ∧ v1 ≤ 6 := by
    rw [ev1]
    exact hw
  refine x_irem1 C dX12_next_5 (by omega) ⟨by omega, by omega⟩ ?_
  refine x_iload_n (i := 2) C dX12_next_6 rfl rfl ?_
  refine x_iconst C dX12_next_7 ?_
  refine x_icmp_ne (tgt := 15) C dX12_next_8 (by decide) ⟨by omega, by omega⟩ ⟨by omega, by omega⟩ (fun h2 => ?_) (fun h2 => ?_)
  · refine x_iload_n (i := 2) C dX12_next_15 rfl rfl ?_
    refine x_iconst C dX12_next_16 ?_
    refine x_icmp_ne (tgt := 24) C dX12_next_17 (by decide) ⟨by omega, by omega⟩ ⟨by omega, by omega⟩ (fun h3 => ?_) (fun h3 => ?_)
    · refine x_iconst C dX12_next_24 ?_
      refine x_iadd C dX12_next_25 ?_
      refine x_eq (b := (-1)) rfl ?_
      refine x_istore_n (i := 3) (lv' := [(3, .int (iI ((-1)))), (0, .ref 0), (1, .int (iI ((-1)))), (2, .int (iI (d)))]) C dX12_next_26 rfl (nlt rfl) rfl ?_
      refine x_iload_n (i := 1) C dX12_next_27 rfl rfl ?_
      refine x_aload_n (i := 0) C dX12_next_28 rfl rfl ?_
      refine x_getI C fkM_X12_278 (nlt rfl) rfl dX12_next_29 ?_
      refine x_gen (fun v4 ev4 => ?_)
      have qv4 : (2 : Int) ≤ v4 ∧ v4 ≤ 6 := by
        rw [ev4]
        exact hw
      refine x_idiv1 C dX12_next_32 (by omega) ⟨by omega, by omega⟩ ?_
      refine x_iload_n (i := 2) C dX12_next_33 rfl rfl ?_
      refine x_iconst C dX12_next_34 ?_
      refine x_icmp_ne (tgt := 42) C dX12_next_35 (by decide) ⟨by omega, by omega⟩ ⟨by omega, by omega⟩ (fun h5 => ?_) (fun h5 => ?_)
      · refine x_iload_n (i := 2) C dX12_next_42 rfl rfl ?_
        refine x_if_ne (tgt := 50) C dX12_next_43 (by decide) ⟨by omega, by omega⟩ (fun h6 => ?_) (fun h6 => ?_)
        · refine x_iconst C dX12_next_50 ?_
          refine x_iadd C dX12_next_51 ?_
          refine x_eq (b := 0) rfl ?_
          refine x_istore (lv' := [(4, .int (iI (0))), (3, .int (iI ((-1)))), (0, .ref 0), (1, .int (iI ((-1)))), (2, .int (iI (d)))]) C dX12_next_52 (nlt rfl) rfl ?_
          refine x_iload_n (i := 3) C dX12_next_54 rfl rfl ?_
          refine x_iconst C dX12_next_55 ?_
          refine x_aload_n (i := 0) C dX12_next_56 rfl rfl ?_
          refine x_getI C fkM_X12_278 (nlt rfl) rfl dX12_next_57 ?_
          refine x_gen (fun v7 ev7 => ?_)
          have qv7 : (2 : Int) ≤ v7 ∧ v7 ≤ 6 := by
            rw [ev7]
            exact hw
          refine x_iconst C dX12_next_60 ?_
          refine x_isub C dX12_next_61 ?_
          refine x_callS (As := [.int (iI ((-1))), .int (iI (0)), .int (iI (v7 - 1))]) C (by exact (q_in (v := (-1)) (a := 0) (b := v7 - 1) ⟨by omega, by omega⟩ ⟨by omega, by omega⟩ ⟨by omega, by omega⟩)) ckX12_165 sm_X12_in rfl rfl (nle rfl) (by exact ⟨nle rfl, nle rfl⟩) dX12_next_62 ?_
          rintro _ Xv8 ⟨hxv8, v8, rfl, ev8⟩
          rw [hxv8]
          refine Wx_st (st' := [.int (iI (v8))]) rfl ?_
          refine x_if_eq (tgt := 95) C dX12_next_65 (by decide) ⟨by omega, by omega⟩ (fun h9 => ?_) (fun h9 => ?_)
          · refine x_iconst C dX12_next_95 ?_
            exact x_iret C hQ dX12_next_96 (⟨rfl, _, rfl, .inl rfl⟩)
          · refine x_iload C dX12_next_68 rfl ?_
            refine x_iconst C dX12_next_70 ?_
            refine x_aload_n (i := 0) C dX12_next_71 rfl rfl ?_
            refine x_getI C fkM_X12_281 (nlt rfl) rfl dX12_next_72 ?_
            refine x_gen (fun v10 ev10 => ?_)
            have qv10 : (2 : Int) ≤ v10 ∧ v10 ≤ 6 := by
              rw [ev10]
              exact hh
            refine x_iconst C dX12_next_75 ?_
            refine x_isub C dX12_next_76 ?_
            refine x_callS (As := [.int (iI (0)), .int (iI (0)), .int (iI (v10 - 1))]) C (by exact (q_in (v := 0) (a := 0) (b := v10 - 1) ⟨by omega, by omega⟩ ⟨by omega, by omega⟩ ⟨by omega, by omega⟩)) ckX12_165 sm_X12_in rfl rfl (nle rfl) (by exact ⟨nle rfl, nle rfl⟩) dX12_next_77 ?_
            rintro _ Xv11 ⟨hxv11, v11, rfl, ev11⟩
            rw [hxv11]
            refine Wx_st (st' := [.int (iI (v11))]) rfl ?_
            refine x_if_eq (tgt := 95) C dX12_next_80 (by decide) ⟨by omega, by omega⟩ (fun h12 => ?_) (fun h12 => ?_)
            · refine x_iconst C dX12_next_95 ?_
              exact x_iret C hQ dX12_next_96 (⟨rfl, _, rfl, .inl rfl⟩)
            · refine x_iload C dX12_next_83 rfl ?_
              refine x_aload_n (i := 0) C dX12_next_85 rfl rfl ?_
              refine x_getI C fkM_X12_278 (nlt rfl) rfl dX12_next_86 ?_
              refine x_gen (fun v13 ev13 => ?_)
              have qv13 : (2 : Int) ≤ v13 ∧ v13 ≤ 6 := by
                rw [ev13]
                exact hw
              refine x_imul C dX12_next_89 ?_
              refine x_iload_n (i := 3) C dX12_next_90 rfl rfl ?_
              refine x_iadd C dX12_next_91 ?_
              refine x_goto (tgt := 96) C dX12_next_92 (by decide) ?_
              exact x_iret C hQ dX12_next_96 (⟨rfl, _, rfl, .inr (yw_bd (h := v10) (by omega) (by omega) (by omega) (by omega) (by omega) (by omega))⟩)
        · refine x_iconst C dX12_next_46 ?_
          refine x_goto (tgt := 51) C dX12_next_47 (by decide) ?_
          refine x_iadd C dX12_next_51 ?_
          refine x_eq (b := (-1)) rfl ?_
          refine x_istore (lv' := [(4, .int (iI ((-1)))), (3, .int (iI ((-1)))), (0, .ref 0), (1, .int (iI ((-1)))), (2, .int (iI (d)))]) C dX12_next_52 (nlt rfl) rfl ?_
          refine x_iload_n (i := 3) C dX12_next_54 rfl rfl ?_
          refine x_iconst C dX12_next_55 ?_
          refine x_aload_n (i := 0) C dX12_next_56 rfl rfl ?_
          refine x_getI C fkM_X12_278 (nlt rfl) rfl dX12_next_57 ?_
          refine x_gen (fun v14 ev14 => ?_)
          have qv14 : (2 : Int) ≤ v14 ∧ v14 ≤ 6 := by
            rw [ev14]
            exact hw
          refine x_iconst C dX12_next_60 ?_
          refine x_isub C dX12_next_61 ?_
          refine x_callS (As := [.int (iI ((-1))), .int (iI (0)), .int (iI (v14 - 1))]) C (by exact (q_in (v := (-1)) (a := 0) (b := v14 - 1) ⟨by omega, by omega⟩ ⟨by omega, by omega⟩ ⟨by omega, by omega⟩)) ckX12_165 sm_X12_in rfl rfl (nle rfl) (by exact ⟨nle rfl, nle rfl⟩) dX12_next_62 ?_
          rintro _ Xv15 ⟨hxv15, v15, rfl, ev15⟩
          rw [hxv15]
          refine Wx_st (st' := [.int (iI (v15))]) rfl ?_
          refine x_if_eq (tgt := 95) C dX12_next_65 (by decide) ⟨by omega, by omega⟩ (fun h16 => ?_) (fun h16 => ?_)
          · refine x_iconst C dX12_next_95 ?_
            exact x_iret C hQ dX12_next_96 (⟨rfl, _, rfl, .inl rfl⟩)
          · refine x_iload C dX12_next_68 rfl ?_
            refine x_iconst C dX12_next_70 ?_
            refine x_aload_n (i := 0) C dX12_next_71 rfl rfl ?_
            refine x_getI C fkM_X12_281 (nlt rfl) rfl dX12_next_72 ?_
            refine x_gen (fun v17 ev17 => ?_)
            have qv17 : (2 : Int) ≤ v17 ∧ v17 ≤ 6 := by
              rw [ev17]
              exact hh
            refine x_iconst C dX12_next_75 ?_
            refine x_isub C dX12_next_76 ?_
            refine x_callS (As := [.int (iI ((-1))), .int (iI (0)), .int (iI (v17 - 1))]) C (by exact (q_in (v := (-1)) (a := 0) (b := v17 - 1) ⟨by omega, by omega⟩ ⟨by omega, by omega⟩ ⟨by omega, by omega⟩)) ckX12_165 sm_X12_in rfl rfl (nle rfl) (by exact ⟨nle rfl, nle rfl⟩) dX12_next_77 ?_
            rintro _ Xv18 ⟨hxv18, v18, rfl, ev18⟩
            rw [hxv18]
            refine Wx_st (st' := [.int (iI (v18))]) rfl ?_
            refine x_if_eq (tgt := 95) C dX12_next_80 (by decide) ⟨by omega, by omega⟩ (fun h19 => ?_) (fun h19 => ?_)
            · refine x_iconst C dX12_next_95 ?_
              exact x_iret C hQ dX12_next_96 (⟨rfl, _, rfl, .inl rfl⟩)
            · refine x_iload C dX12_next_83 rfl ?_
              refine x_aload_n (i := 0) C dX12_next_85 rfl rfl ?_
              refine x_getI C fkM_X12_278 (nlt rfl) rfl dX12_next_86 ?_
              refine x_gen (fun v20 ev20 => ?_)
              have qv20 : (2 : Int) ≤ v20 ∧ v20 ≤ 6 := by
                rw [ev20]
                exact hw
              refine x_imul C dX12_next_89 ?_
              refine x_iload_n (i := 3) C dX12_next_90 rfl rfl ?_
              refine x_iadd C dX12_next_91 ?_
              refine x_goto (tgt := 96) C dX12_next_92 (by decide) ?_
              exact x_iret C hQ dX12_next_96 (⟨rfl, _, rfl, .inr (yw_bd (h := v17) (by omega) (by omega) (by omega) (by omega) (by omega) (by omega))⟩)
      · refine x_iconst C dX12_next_38 ?_
        refine x_goto (tgt := 51) C dX12_next_39 (by decide) ?_
        refine x_iadd C dX12_next_51 ?_
        refine x_eq (b := 1) rfl ?_
        refine x_istore (lv' := [(4, .int (iI (1))), (3, .int (iI ((-1)))), (0, .ref 0), (1, .int (iI ((-1)))), (2, .int (iI (d)))]) C dX12_next_52 (nlt rfl) rfl ?_
        refine x_iload_n (i := 3) C dX12_next_54 rfl rfl ?_
        refine x_iconst C dX12_next_55 ?_
        refine x_aload_n (i := 0) C dX12_next_56 rfl rfl ?_
        refine x_getI C fkM_X12_278 (nlt rfl) rfl dX12_next_57 ?_
        refine x_gen (fun v21 ev21 => ?_)
        have qv21 : (2 : Int) ≤ v21 ∧ v21 ≤ 6 := by
          rw [ev21]
          exact hw
        refine x_iconst C dX12_next_60 ?_
        refine x_isub C dX12_next_61 ?_
        refine x_callS (As := [.int (iI ((-1))), .int (iI (0)), .int (iI (v21 - 1))]) C (by exact (q_in (v := (-1)) (a := 0) (b := v21 - 1) ⟨by omega, by omega⟩ ⟨by omega, by omega⟩ ⟨by omega, by omega⟩)) ckX12_165 sm_X12_in rfl rfl (nle rfl) (by exact ⟨nle rfl, nle rfl⟩) dX12_next_62 ?_
        rintro _ Xv22 ⟨hxv22, v22, rfl, ev22⟩
        rw [hxv22]
        refine Wx_st (st' := [.int (iI (v22))]) rfl ?_
        refine x_if_eq (tgt := 95) C dX12_next_65 (by decide) ⟨by omega, by omega⟩ (fun h23 => ?_) (fun h23 => ?_)
        · refine x_iconst C dX12_next_95 ?_
          exact x_iret C hQ dX12_next_96 (⟨rfl, _, rfl, .inl rfl⟩)
        · refine x_iload C dX12_next_68 rfl ?_
          refine x_iconst C dX12_next_70 ?_
          refine x_aload_n (i := 0) C dX12_next_71 rfl rfl ?_
          refine x_getI C fkM_X12_281 (nlt rfl) rfl dX12_next_72 ?_
          refine x_gen (fun v24 ev24 => ?_)
          have qv24 : (2 : Int) ≤ v24 ∧ v24 ≤ 6 := by
            rw [ev24]
            exact hh
          refine x_iconst C dX12_next_75 ?_
          refine x_isub C dX12_next_76 ?_
          refine x_callS (As := [.int (iI (1)), .int (iI (0)), .int (iI (v24 - 1))]) C (by exact (q_in (v := 1) (a := 0) (b := v24 - 1) ⟨by omega, by omega⟩ ⟨by omega, by omega⟩ ⟨by omega, by omega⟩)) ckX12_165 sm_X12_in rfl rfl (nle rfl) (by exact ⟨nle rfl, nle rfl⟩) dX12_next_77 ?_
          rintro _ Xv25 ⟨hxv25, v25, rfl, ev25⟩
          rw [hxv25]
          refine Wx_st (st' := [.int (iI (v25))]) rfl ?_
          refine x_if_eq (tgt := 95) C dX12_next_80 (by decide) ⟨by omega, by omega⟩ (fun h26 => ?_) (fun h26 => ?_)
          · refine x_iconst C dX12_next_95 ?_
            exact x_iret C hQ dX12_next_96 (⟨rfl, _, rfl, .inl rfl⟩)
          · refine x_iload C dX12_next_83 rfl ?_
            refine x_aload_n (i := 0) C dX12_next_85 rfl rfl ?_
            refine x_getI C fkM_X12_278 (nlt rfl) rfl dX12_next_86 ?_
            refine x_gen (fun v27 ev27 => ?_)
            have qv27 : (2 : Int) ≤ v27 ∧ v27 ≤ 6 := by
              rw [ev27]
              exact hw
            refine x_imul C dX12_next_89 ?_
            refine x_iload_n (i := 3) C dX12_next_90 rfl rfl ?_
            refine x_iadd C dX12_next_91 ?_
            refine x_goto (tgt := 96) C dX12_next_92 (by decide) ?_
            exact x_iret C hQ dX12_next_96 (⟨rfl, _, rfl, .inr (yw_bd (h := v24) (by omega) (by omega) (by omega) (by omega) (by omega) (by omega))⟩)
    · refine x_iconst C dX12_next_20 ?_
      refine x_goto (tgt := 25) C dX12_next_21 (by decide) ?_
      refine x_iadd C dX12_next_25 ?_
      refine x_eq (b := (-2)) rfl ?_
      refine x_istore_n (i := 3) (lv' := [(3, .int (iI ((-2)))), (0, .ref 0), (1, .int (iI ((-1)))), (2, .int (iI (d)))]) C dX12_next_26 rfl (nlt rfl) rfl ?_
      refine x_iload_n (i := 1) C dX12_next_27 rfl rfl ?_
      refine x_aload_n (i := 0) C dX12_next_28 rfl rfl ?_
      refine x_getI C fkM_X12_278 (nlt rfl) rfl dX12_next_29 ?_
      refine x_gen (fun v28 ev28 => ?_)
      have qv28 : (2 : Int) ≤ v28 ∧ v28 ≤ 6 := by
        rw [ev28]
        exact hw
      refine x_idiv1 C dX12_next_32 (by omega) ⟨by omega, by omega⟩ ?_
      refine x_iload_n (i := 2) C dX12_next_33 rfl rfl ?_
      refine x_iconst C dX12_next_34 ?_
      refine x_icmp_ne (tgt := 42) C dX12_next_35 (by decide) ⟨by omega, by omega⟩ ⟨by omega, by omega⟩ (fun h29 => ?_) (fun h29 => ?_)
      · refine x_iload_n (i := 2) C dX12_next_42 rfl rfl ?_
        refine x_if_ne (tgt := 50) C dX12_next_43 (by decide) ⟨by omega, by omega⟩ (fun h30 => ?_) (fun h30 => ?_)
        · refine x_iconst C dX12_next_50 ?_
          refine x_iadd C dX12_next_51 ?_
          refine x_eq (b := 0) rfl ?_
          refine x_istore (lv' := [(4, .int (iI (0))), (3, .int (iI ((-2)))), (0, .ref 0), (1, .int (iI ((-1)))), (2, .int (iI (d)))]) C dX12_next_52 (nlt rfl) rfl ?_
          refine x_iload_n (i := 3) C dX12_next_54 rfl rfl ?_
          refine x_iconst C dX12_next_55 ?_
          refine x_aload_n (i := 0) C dX12_next_56 rfl rfl ?_
          refine x_getI C fkM_X12_278 (nlt rfl) rfl dX12_next_57 ?_
          refine x_gen (fun v31 ev31 => ?_)
          have qv31 : (2 : Int) ≤ v31 ∧ v31 ≤ 6 := by
            rw [ev31]
            exact hw
          refine x_iconst C dX12_next_60 ?_
          refine x_isub C dX12_next_61 ?_
          refine x_callS (As := [.int (iI ((-2))), .int (iI (0)), .int (iI (v31 - 1))]) C (by exact (q_in (v := (-2)) (a := 0) (b := v31 - 1) ⟨by omega, by omega⟩ ⟨by omega, by omega⟩ ⟨by omega, by omega⟩)) ckX12_165 sm_X12_in rfl rfl (nle rfl) (by exact ⟨nle rfl, nle rfl⟩) dX12_next_62 ?_
          rintro _ Xv32 ⟨hxv32, v32, rfl, ev32⟩
          rw [hxv32]
          refine Wx_st (st' := [.int (iI (v32))]) rfl ?_
          refine x_if_eq (tgt := 95) C dX12_next_65 (by decide) ⟨by omega, by omega⟩ (fun h33 => ?_) (fun h33 => ?_)
          · refine x_iconst C dX12_next_95 ?_
            exact x_iret C hQ dX12_next_96 (⟨rfl, _, rfl, .inl rfl⟩)
          · refine x_iload C dX12_next_68 rfl ?_
            refine x_iconst C dX12_next_70 ?_
            refine x_aload_n (i := 0) C dX12_next_71 rfl rfl ?_
            refine x_getI C fkM_X12_281 (nlt rfl) rfl dX12_next_72 ?_
            refine x_gen (fun v34 ev34 => ?_)
            have qv34 : (2 : Int) ≤ v34 ∧ v34 ≤ 6 := by
              rw [ev34]
              exact hh
            refine x_iconst C dX12_next_75 ?_
            refine x_isub C dX12_next_76 ?_
            refine x_callS (As := [.int (iI (0)), .int (iI (0)), .int (iI (v34 - 1))]) C (by exact (q_in (v := 0) (a := 0) (b := v34 - 1) ⟨by omega, by omega⟩ ⟨by omega, by omega⟩ ⟨by omega, by omega⟩)) ckX12_165 sm_X12_in rfl rfl (nle rfl) (by exact ⟨nle rfl, nle rfl⟩) dX12_next_77 ?_
            rintro _ Xv35 ⟨hxv35, v35, rfl, ev35⟩
            rw [hxv35]
            refine Wx_st (st' := [.int (iI (v35))]) rfl ?_
            refine x_if_eq (tgt := 95) C dX12_next_80 (by decide) ⟨by omega, by omega⟩ (fun h36 => ?_) (fun h36 => ?_)
            · refine x_iconst C dX12_next_95 ?_
              exact x_iret C hQ dX12_next_96 (⟨rfl, _, rfl, .inl rfl⟩)
            · refine x_iload C dX12_next_83 rfl ?_
              refine x_aload_n (i := 0) C dX12_next_85 rfl rfl ?_
              refine x_getI C fkM_X12_278 (nlt rfl) rfl dX12_next_86 ?_
              refine x_gen (fun v37 ev37 => ?_)
              have qv37 : (2 : Int) ≤ v37 ∧ v37 ≤ 6 := by
                rw [ev37]
                exact hw
              refine x_imul C dX12_next_89 ?_
              refine x_iload_n (i := 3) C dX12_next_90 rfl rfl ?_
              refine x_iadd C dX12_next_91 ?_
              refine x_goto (tgt := 96) C dX12_next_92 (by decide) ?_
              exact x_iret C hQ dX12_next_96 (⟨rfl, _, rfl, .inr (yw_bd (h := v34) (by omega) (by omega) (by omega) (by omega) (by omega) (by omega))⟩)
        · refine x_iconst C dX12_next_46 ?_
          refine x_goto (tgt := 51) C dX12_next_47 (by decide) ?_
          refine x_iadd C dX12_next_51 ?_
          refine x_eq (b := (-1)) rfl ?_
          refine x_istore (lv' := [(4, .int (iI ((-1)))), (3, .int (iI ((-2)))), (0, .ref 0), (1, .int (iI ((-1)))), (2, .int (iI (d)))]) C dX12_next_52 (nlt rfl) rfl ?_
          refine x_iload_n (i := 3) C dX12_next_54 rfl rfl ?_
          refine x_iconst C dX12_next_55 ?_
          refine x_aload_n (i := 0) C dX12_next_56 rfl rfl ?_
          refine x_getI C fkM_X12_278 (nlt rfl) rfl dX12_next_57 ?_
          refine x_gen (fun v38 ev38 => ?_)
          have qv38 : (2 : Int) ≤ v38 ∧ v38 ≤ 6 := by
            rw [ev38]
            exact hw
          refine x_iconst C dX12_next_60 ?_
          refine x_isub C dX12_next_61 ?_
          refine x_callS (As := [.int (iI ((-2))), .int (iI (0)), .int (iI (v38 - 1))]) C (by exact (q_in (v := (-2)) (a := 0) (b := v38 - 1) ⟨by omega, by omega⟩ ⟨by omega, by omega⟩ ⟨by omega, by omega⟩)) ckX12_165 sm_X12_in rfl rfl (nle rfl) (by exact ⟨nle rfl, nle rfl⟩) dX12_next_62 ?_
          rintro _ Xv39 ⟨hxv39, v39, rfl, ev39⟩
          rw [hxv39]
          refine Wx_st (st' := [.int (iI (v39))]) rfl ?_
          refine x_if_eq (tgt := 95) C dX12_next_65 (by decide) ⟨by omega, by omega⟩ (fun h40 => ?_) (fun h40 => ?_)
          · refine x_iconst C dX12_next_95 ?_
            exact x_iret C hQ dX12_next_96 (⟨rfl, _, rfl, .inl rfl⟩)
          · refine x_iload C dX12_next_68 rfl ?_
            refine x_iconst C dX12_next_70 ?_
            refine x_aload_n (i := 0) C dX12_next_71 rfl rfl ?_
            refine x_getI C fkM_X12_281 (nlt rfl) rfl dX12_next_72 ?_
            refine x_gen (fun v41 ev41 => ?_)
            have qv41 : (2 : Int) ≤ v41 ∧ v41 ≤ 6 := by
              rw [ev41]
              exact hh
            refine x_iconst C dX12_next_75 ?_
            refine x_isub C dX12_next_76 ?_
            refine x_callS (As := [.int (iI ((-1))), .int (iI (0)), .int (iI (v41 - 1))]) C (by exact (q_in (v := (-1)) (a := 0) (b := v41 - 1) ⟨by omega, by omega⟩ ⟨by omega, by omega⟩ ⟨by omega, by omega⟩)) ckX12_165 sm_X12_in rfl rfl (nle rfl) (by exact ⟨nle rfl, nle rfl⟩) dX12_next_77 ?_
            rintro _ Xv42 ⟨hxv42, v42, rfl, ev42⟩
            rw [hxv42]
            refine Wx_st (st' := [.int (iI (v42))]) rfl ?_
            refine x_if_eq (tgt := 95) C dX12_next_80 (by decide) ⟨by omega, by omega⟩ (fun h43 => ?_) (fun h43 => ?_)
            · refine x_iconst C dX12_next_95 ?_
              exact x_iret C hQ dX12_next_96 (⟨rfl, _, rfl, .inl rfl⟩)
            · refine x_iload C dX12_next_83 rfl ?_
              refine x_aload_n (i := 0) C dX12_next_85 rfl rfl ?_
              refine x_getI C fkM_X12_278 (nlt rfl) rfl dX12_next_86 ?_
              refine x_gen (fun v44 ev44 => ?_)
              have qv44 : (2 : Int) ≤ v44 ∧ v44 ≤ 6 := by
                rw [ev44]
                exact hw
              refine x_imul C dX12_next_89 ?_
              refine x_iload_n (i := 3) C dX12_next_90 rfl rfl ?_
              refine x_iadd C dX12_next_91 ?_
              refine x_goto (tgt := 96) C dX12_next_92 (by decide) ?_
              exact x_iret C hQ dX12_next_96 (⟨rfl, _, rfl, .inr (yw_bd (h := v41) (by omega) (by omega) (by omega) (by omega) (by omega) (by omega))⟩)
      · refine x_iconst C dX12_next_38 ?_
        refine x_goto (tgt := 51) C dX12_next_39 (by decide) ?_
        refine x_iadd C dX12_next_51 ?_
        refine x_eq (b := 1) rfl ?_
        refine x_istore (lv' := [(4, .int (iI (1))), (3, .int (iI ((-2)))), (0, .ref 0), (1, .int (iI ((-1)))), (2, .int (iI (d)))]) C dX12_next_52 (nlt rfl) rfl ?_
        refine x_iload_n (i := 3) C dX12_next_54 rfl rfl ?_
        refine x_iconst C dX12_next_55 ?_
        refine x_aload_n (i := 0) C dX12_next_56 rfl rfl ?_
        refine x_getI C fkM_X12_278 (nlt rfl) rfl dX12_next_57 ?_
        refine x_gen (fun v45 ev45 => ?_)
        have qv45 : (2 : Int) ≤ v45 ∧ v45 ≤ 6 := by
          rw [ev45]
          exact hw
        refine x_iconst C dX12_next_60 ?_
        refine x_isub C dX12_next_61 ?_
        refine x_callS (As := [.int (iI ((-2))), .int (iI (0)), .int (iI (v45 - 1))]) C (by exact (q_in (v := (-2)) (a := 0) (b := v45 - 1) ⟨by omega, by omega⟩ ⟨by omega, by omega⟩ ⟨by omega, by omega⟩)) ckX12_165 sm_X12_in rfl rfl (nle rfl) (by exact ⟨nle rfl, nle rfl⟩) dX12_next_62 ?_
        rintro _ Xv46 ⟨hxv46, v46, rfl, ev46⟩
        rw [hxv46]
        refine Wx_st (st' := [.int (iI (v46))]) rfl ?_
        refine x_if_eq (tgt := 95) C dX12_next_65 (by decide) ⟨by omega, by omega⟩ (fun h47 => ?_) (fun h47 => ?_)
        · refine x_iconst C dX12_next_95 ?_
          exact x_iret C hQ dX12_next_96 (⟨rfl, _, rfl, .inl rfl⟩)
        · refine x_iload C dX12_next_68 rfl ?_
          refine x_iconst C dX12_next_70 ?_
          refine x_aload_n (i := 0) C dX12_next_71 rfl rfl ?_
          refine x_getI C fkM_X12_281 (nlt rfl) rfl dX12_next_72 ?_
          refine x_gen (fun v48 ev48 => ?_)
          have qv48 : (2 : Int) ≤ v48 ∧ v48 ≤ 6 := by
            rw [ev48]
            exact hh
          refine x_iconst C dX12_next_75 ?_
          refine x_isub C dX12_next_76 ?_
          refine x_callS (As := [.int (iI (1)), .int (iI (0)), .int (iI (v48 - 1))]) C (by exact (q_in (v := 1) (a := 0) (b := v48 - 1) ⟨by omega, by omega⟩ ⟨by omega, by omega⟩ ⟨by omega, by omega⟩)) ckX12_165 sm_X12_in rfl rfl (nle rfl) (by exact ⟨nle rfl, nle rfl⟩) dX12_next_77 ?_
          rintro _ Xv49 ⟨hxv49, v49, rfl, ev49⟩
          rw [hxv49]
          refine Wx_st (st' := [.int (iI (v49))]) rfl ?_
          refine x_if_eq (tgt := 95) C dX12_next_80 (by decide) ⟨by omega, by omega⟩ (fun h50 => ?_) (fun h50 => ?_)
          · refine x_iconst C dX12_next_95 ?_
            exact x_iret C hQ dX12_next_96 (⟨rfl, _, rfl, .inl rfl⟩)
          · refine x_iload C dX12_next_83 rfl ?_
            refine x_aload_n (i := 0) C dX12_next_85 rfl rfl ?_
            refine x_getI C fkM_X12_278 (nlt rfl) rfl dX12_next_86 ?_
            refine x_gen (fun v51 ev51 => ?_)
            have qv51 : (2 : Int) ≤ v51 ∧ v51 ≤ 6 := by
              rw [ev51]
              exact hw
            refine x_imul C dX12_next_89 ?_
            refine x_iload_n (i := 3) C dX12_next_90 rfl rfl ?_
            refine x_iadd C dX12_next_91 ?_
            refine x_goto (tgt := 96) C dX12_next_92 (by decide) ?_
            exact x_iret C hQ dX12_next_96 (⟨rfl, _, rfl, .inr (yw_bd (h := v48) (by omega) (by omega) (by omega) (by omega) (by omega) (by omega))⟩)
  · refine x_iconst C dX12_next_11 ?_
    refine x_goto (tgt := 25) C dX12_next_12 (by decide) ?_
    refine x_iadd C dX12_next_25 ?_
    refine x_eq (b := 0) rfl ?_
    refine x_istore_n (i := 3) (lv' := [(3, .int (iI (0))), (0, .ref 0), (1, .int (iI ((-1)))), (2, .int (iI (d)))]) C dX12_next_26 rfl (nlt rfl) rfl ?_
    refine x_iload_n (i := 1) C dX12_next_27 rfl rfl ?_
    refine x_aload_n (i := 0) C dX12_next_28 rfl rfl ?_
    refine x_getI C fkM_X12_278 (nlt rfl) rfl dX12_next_29 ?_
    refine x_gen (fun v52 ev52 => ?_)
    have qv52 : (2 : Int) ≤ v52 ∧ v52 ≤ 6 := by
      rw [ev52]
      exact hw
    refine x_idiv1 C dX12_next_32 (by omega) ⟨by omega, by omega⟩ ?_
    refine x_iload_n (i := 2) C dX12_next_33 rfl rfl ?_
    refine x_iconst C dX12_next_34 ?_
    refine x_icmp_ne (tgt := 42) C dX12_next_35 (by decide) ⟨by omega, by omega⟩ ⟨by omega, by omega⟩ (fun h53 => ?_) (fun h53 => ?_)
    · refine x_iload_n (i := 2) C dX12_next_42 rfl rfl ?_
      refine x_if_ne (tgt := 50) C dX12_next_43 (by decide) ⟨by omega, by omega⟩ (fun h54 => ?_) (fun h54 => ?_)
      · refine x_iconst C dX12_next_50 ?_
        refine x_iadd C dX12_next_51 ?_
        refine x_eq (b := 0) rfl ?_
        refine x_istore (lv' := [(4, .int (iI (0))), (3, .int (iI (0))), (0, .ref 0), (1, .int (iI ((-1)))), (2, .int (iI (d)))]) C dX12_next_52 (nlt rfl) rfl ?_
        refine x_iload_n (i := 3) C dX12_next_54 rfl rfl ?_
        refine x_iconst C dX12_next_55 ?_
        refine x_aload_n (i := 0) C dX12_next_56 rfl rfl ?_
        refine x_getI C fkM_X12_278 (nlt rfl) rfl dX12_next_57 ?_
        refine x_gen (fun v55 ev55 => ?_)
        have qv55 : (2 : Int) ≤ v55 ∧ v55 ≤ 6 := by
          rw [ev55]
          exact hw
        refine x_iconst C dX12_next_60 ?_
        refine x_isub C dX12_next_61 ?_
        refine x_callS (As := [.int (iI (0)), .int (iI (0)), .int (iI (v55 - 1))]) C (by exact (q_in (v := 0) (a := 0) (b := v55 - 1) ⟨by omega, by omega⟩ ⟨by omega, by omega⟩ ⟨by omega, by omega⟩)) ckX12_165 sm_X12_in rfl rfl (nle rfl) (by exact ⟨nle rfl, nle rfl⟩) dX12_next_62 ?_
        rintro _ Xv56 ⟨hxv56, v56, rfl, ev56⟩
        rw [hxv56]
        refine Wx_st (st' := [.int (iI (v56))]) rfl ?_
        refine x_if_eq (tgt := 95) C dX12_next_65 (by decide) ⟨by omega, by omega⟩ (fun h57 => ?_) (fun h57 => ?_)
        · refine x_iconst C dX12_next_95 ?_
          exact x_iret C hQ dX12_next_96 (⟨rfl, _, rfl, .inl rfl⟩)
        · refine x_iload C dX12_next_68 rfl ?_
          refine x_iconst C dX12_next_70 ?_
          refine x_aload_n (i := 0) C dX12_next_71 rfl rfl ?_
          refine x_getI C fkM_X12_281 (nlt rfl) rfl dX12_next_72 ?_
          refine x_gen (fun v58 ev58 => ?_)
          have qv58 : (2 : Int) ≤ v58 ∧ v58 ≤ 6 := by
            rw [ev58]
            exact hh
          refine x_iconst C dX12_next_75 ?_
          refine x_isub C dX12_next_76 ?_
          refine x_callS (As := [.int (iI (0)), .int (iI (0)), .int (iI (v58 - 1))]) C (by exact (q_in (v := 0) (a := 0) (b := v58 - 1) ⟨by omega, by omega⟩ ⟨by omega, by omega⟩ ⟨by omega, by omega⟩)) ckX12_165 sm_X12_in rfl rfl (nle rfl) (by exact ⟨nle rfl, nle rfl⟩) dX12_next_77 ?_
          rintro _ Xv59 ⟨hxv59, v59, rfl, ev59⟩
          rw [hxv59]
          refine Wx_st (st' := [.int (iI (v59))]) rfl ?_
          refine x_if_eq (tgt := 95) C dX12_next_80 (by decide) ⟨by omega, by omega⟩ (fun h60 => ?_) (fun h60 => ?_)
          · refine x_iconst C dX12_next_95 ?_
            exact x_iret C hQ dX12_next_96 (⟨rfl, _, rfl, .inl rfl⟩)
          · refine x_iload C dX12_next_83 rfl ?_
            refine x_aload_n (i := 0) C dX12_next_85 rfl rfl ?_
            refine x_getI C fkM_X12_278 (nlt rfl) rfl dX12_next_86 ?_
            refine x_gen (fun v61 ev61 => ?_)
            have qv61 : (2 : Int) ≤ v61 ∧ v61 ≤ 6 := by
              rw [ev61]
              exact hw
            refine x_imul C dX12_next_89 ?_
            refine x_iload_n (i := 3) C dX12_next_90 rfl rfl ?_
            refine x_iadd C dX12_next_91 ?_
            refine x_goto (tgt := 96) C dX12_next_92 (by decide) ?_
            exact x_iret C hQ dX12_next_96 (⟨rfl, _, rfl, .inr (yw_bd (h := v58) (by omega) (by omega) (by omega) (by omega) (by omega) (by omega))⟩)
      · refine x_iconst C dX12_next_46 ?_
        refine x_goto (tgt := 51) C dX12_next_47 (by decide) ?_
        refine x_iadd C dX12_next_51 ?_
        refine x_eq (b := (-1)) rfl ?_
        refine x_istore (lv' := [(4, .int (iI ((-1)))), (3, .int (iI (0))), (0, .ref 0), (1, .int (iI ((-1)))), (2, .int (iI (d)))]) C dX12_next_52 (nlt rfl) rfl ?_
        refine x_iload_n (i := 3) C dX12_next_54 rfl rfl ?_
        refine x_iconst C dX12_next_55 ?_
        refine x_aload_n (i := 0) C dX12_next_56 rfl rfl ?_
        refine x_getI C fkM_X12_278 (nlt rfl) rfl dX12_next_57 ?_
        refine x_gen (fun v62 ev62 => ?_)
        have qv62 : (2 : Int) ≤ v62 ∧ v62 ≤ 6 := by
          rw [ev62]
          exact hw
        refine x_iconst C dX12_next_60 ?_
        refine x_isub C dX12_next_61 ?_
        refine x_callS (As := [.int (iI (0)), .int (iI (0)), .int (iI (v62 - 1))]) C (by exact (q_in (v := 0) (a := 0) (b := v62 - 1) ⟨by omega, by omega⟩ ⟨by omega, by omega⟩ ⟨by omega, by omega⟩)) ckX12_165 sm_X12_in rfl rfl (nle rfl) (by exact ⟨nle rfl, nle rfl⟩) dX12_next_62 ?_
        rintro _ Xv63 ⟨hxv63, v63, rfl, ev63⟩
        rw [hxv63]
        refine Wx_st (st' := [.int (iI (v63))]) rfl ?_
        refine x_if_eq (tgt := 95) C dX12_next_65 (by decide) ⟨by omega, by omega⟩ (fun h64 => ?_) (fun h64 => ?_)
        · refine x_iconst C dX12_next_95 ?_
          exact x_iret C hQ dX12_next_96 (⟨rfl, _, rfl, .inl rfl⟩)
        · refine x_iload C dX12_next_68 rfl ?_
          refine x_iconst C dX12_next_70 ?_
          refine x_aload_n (i := 0) C dX12_next_71 rfl rfl ?_
          refine x_getI C fkM_X12_281 (nlt rfl) rfl dX12_next_72 ?_
          refine x_gen (fun v65 ev65 => ?_)
          have qv65 : (2 : Int) ≤ v65 ∧ v65 ≤ 6 := by
            rw [ev65]
            exact hh
          refine x_iconst C dX12_next_75 ?_
          refine x_isub C dX12_next_76 ?_
          refine x_callS (As := [.int (iI ((-1))), .int (iI (0)), .int (iI (v65 - 1))]) C (by exact (q_in (v := (-1)) (a := 0) (b := v65 - 1) ⟨by omega, by omega⟩ ⟨by omega, by omega⟩ ⟨by omega, by omega⟩)) ckX12_165 sm_X12_in rfl rfl (nle rfl) (by exact ⟨nle rfl, nle rfl⟩) dX12_next_77 ?_
          rintro _ Xv66 ⟨hxv66, v66, rfl, ev66⟩
          rw [hxv66]
          refine Wx_st (st' := [.int (iI (v66))]) rfl ?_
          refine x_if_eq (tgt := 95) C dX12_next_80 (by decide) ⟨by omega, by omega⟩ (fun h67 => ?_) (fun h67 => ?_)
          · refine x_iconst C dX12_next_95 ?_
            exact x_iret C hQ dX12_next_96 (⟨rfl, _, rfl, .inl rfl⟩)
          · refine x_iload C dX12_next_83 rfl ?_
            refine x_aload_n (i := 0) C dX12_next_85 rfl rfl ?_
            refine x_getI C fkM_X12_278 (nlt rfl) rfl dX12_next_86 ?_
            refine x_gen (fun v68 ev68 => ?_)
            have qv68 : (2 : Int) ≤ v68 ∧ v68 ≤ 6 := by
              rw [ev68]
              exact hw
            refine x_imul C dX12_next_89 ?_
            refine x_iload_n (i := 3) C dX12_next_90 rfl rfl ?_
            refine x_iadd C dX12_next_91 ?_
            refine x_goto (tgt := 96) C dX12_next_92 (by decide) ?_
            exact x_iret C hQ dX12_next_96 (⟨rfl, _, rfl, .inr (yw_bd (h := v65) (by omega) (by omega) (by omega) (by omega) (by omega) (by omega))⟩)
    · refine x_iconst C dX12_next_38 ?_
      refine x_goto (tgt := 51) C dX12_next_39 (by decide) ?_
      refine x_iadd C dX12_next_51 ?_
      refine x_eq (b := 1) rfl ?_
      refine x_istore (lv' := [(4, .int (iI (1))), (3, .int (iI (0))), (0, .ref 0), (1, .int (iI ((-1)))), (2, .int (iI (d)))]) C dX12_next_52 (nlt rfl) rfl ?_
      refine x_iload_n (i := 3) C dX12_next_54 rfl rfl ?_
      refine x_iconst C dX12_next_55 ?_
      refine x_aload_n (i := 0) C dX12_next_56 rfl rfl ?_
      refine x_getI C fkM_X12_278 (nlt rfl) rfl dX12_next_57 ?_
      refine x_gen (fun v69 ev69 => ?_)
      have qv69 : (2 : Int) ≤ v69 ∧ v69 ≤ 6 := by
        rw [ev69]
        exact hw
      refine x_iconst C dX12_next_60 ?_
      refine x_isub C dX12_next_61 ?_
      refine x_callS (As := [.int (iI (0)), .int (iI (0)), .int (iI (v69 - 1))]) C (by exact (q_in (v := 0) (a := 0) (b := v69 - 1) ⟨by omega, by omega⟩ ⟨by omega, by omega⟩ ⟨by omega, by omega⟩)) ckX12_165 sm_X12_in rfl rfl (nle rfl) (by exact ⟨nle rfl, nle rfl⟩) dX12_next_62 ?_
      rintro _ Xv70 ⟨hxv70, v70, rfl, ev70⟩
      rw [hxv70]
      refine Wx_st (st' := [.int (iI (v70))]) rfl ?_
      refine x_if_eq (tgt := 95) C dX12_next_65 (by decide) ⟨by omega, by omega⟩ (fun h71 => ?_) (fun h71 => ?_)
      · refine x_iconst C dX12_next_95 ?_
        exact x_iret C hQ dX12_next_96 (⟨rfl, _, rfl, .inl rfl⟩)
      · refine x_iload C dX12_next_68 rfl ?_
        refine x_iconst C dX12_next_70 ?_
        refine x_aload_n (i := 0) C dX12_next_71 rfl rfl ?_
        refine x_getI C fkM_X12_281 (nlt rfl) rfl dX12_next_72 ?_
        refine x_gen (fun v72 ev72 => ?_)
        have qv72 : (2 : Int) ≤ v72 ∧ v72 ≤ 6 := by
          rw [ev72]
          exact hh
        refine x_iconst C dX12_next_75 ?_
        refine x_isub C dX12_next_76 ?_
        refine x_callS (As := [.int (iI (1)), .int (iI (0)), .int (iI (v72 - 1))]) C (by exact (q_in (v := 1) (a := 0) (b := v72 - 1) ⟨by omega, by omega⟩ ⟨by omega, by omega⟩ ⟨by omega, by omega⟩)) ckX12_165 sm_X12_in rfl rfl (nle rfl) (by exact ⟨nle rfl, nle rfl⟩) dX12_next_77 ?_
        rintro _ Xv73 ⟨hxv73, v73, rfl, ev73⟩
        rw [hxv73]
        refine Wx_st (st' := [.int (iI (v73))]) rfl ?_
        refine x_if_eq (tgt := 95) C dX12_next_80 (by decide) ⟨by omega, by omega⟩ (fun h74 => ?_) (fun h74 => ?_)
        · refine x_iconst C dX12_next_95 ?_
          exact x_iret C hQ dX12_next_96 (⟨rfl, _, rfl, .inl rfl⟩)
        · refine x_iload C dX12_next_83 rfl ?_
          refine x_aload_n (i := 0) C dX12_next_85 rfl rfl ?_
          refine x_getI C fkM_X12_278 (nlt rfl) rfl dX12_next_86 ?_
          refine x_gen (fun v75 ev75 => ?_)
          have qv75 : (2 : Int) ≤ v75 ∧ v75 ≤ 6 := by
            rw [ev75]
            exact hw
          refine x_imul C dX12_next_89 ?_
          refine x_iload_n (i := 3) C dX12_next_90 rfl rfl ?_
          refine x_iadd C dX12_next_91 ?_
          refine x_goto (tgt := 96) C dX12_next_92 (by decide) ?_
          exact x_iret C hQ dX12_next_96 (⟨rfl, _, rfl, .inr (yw_bd (h := v72) (by omega) (by omega) (by omega) (by omega) (by omega) (by omega))⟩)
set_option maxHeartbeats 4000000 in
set_option maxRecDepth 100000 in
theorem q_next {D : va_G} {ad : Nat → Nat} {cA : Nat → ClassId} {X : XT} {d : Int} (d0 : 0 ≤ d) (d1 : d ≤ 3) (hw : 2 ≤ X.1 0 22 ∧ X.1 0 22 ≤ 6) (hh : 2 ≤ X.1 0 23 ∧ X.1 0 23 ≤ 6) {p : Int} (p0 : 0 ≤ p) (p1 : p ≤ 35) : MetX (wM D ad cA) yX12_next cX12_next 5 (some .int) 1 22 [.ref 0, .int (iI (p)), .int (iI (d))] X (fun r X' => X' = X ∧ ∃ u : Int, r = some (.int (iI u)) ∧ (u = -1 ∨ (0 ≤ u ∧ u ≤ 35))) := by
  refine MetX.mk (own := RX12) (by decide +kernel) rfl (nle rfl) (fun E C hQ => ?_)
  refine Wx_lv (lv' := [(0, .ref 0), (1, .int (iI (p))), (2, .int (iI (d)))]) rfl ?_
  refine x_iload_n (i := 1) C dX12_next_0 rfl rfl ?_
  refine x_aload_n (i := 0) C dX12_next_1 rfl rfl ?_
  refine x_getI C fkM_X12_278 (nlt rfl) rfl dX12_next_2 ?_
  refine x_gen (fun v1 ev1 => ?_)
  have qv1 : (2 : Int) ≤ v1 ∧ v1 ≤ 6 := by
    rw [ev1]
    exact hw
  refine x_irem C dX12_next_5 (by omega) (by omega) ⟨by omega, by omega⟩ ⟨by omega, by omega⟩ ?_
  have n6 := md_bd (p := p) (w := v1) (by omega) (by omega)
  refine x_iload_n (i := 2) C dX12_next_6 rfl rfl ?_
  refine x_iconst C dX12_next_7 ?_
  refine x_icmp_ne (tgt := 15) C dX12_next_8 (by decide) ⟨by omega, by omega⟩ ⟨by omega, by omega⟩ (fun h2 => ?_) (fun h2 => ?_)
  · refine x_iload_n (i := 2) C dX12_next_15 rfl rfl ?_
    refine x_iconst C dX12_next_16 ?_
    refine x_icmp_ne (tgt := 24) C dX12_next_17 (by decide) ⟨by omega, by omega⟩ ⟨by omega, by omega⟩ (fun h3 => ?_) (fun h3 => ?_)
    · refine x_iconst C dX12_next_24 ?_
      refine x_iadd C dX12_next_25 ?_
      refine x_gen (fun v4 ev4 => ?_)
      refine x_istore_n (i := 3) (lv' := [(3, .int (iI (v4))), (0, .ref 0), (1, .int (iI (p))), (2, .int (iI (d)))]) C dX12_next_26 rfl (nlt rfl) rfl ?_
      refine x_iload_n (i := 1) C dX12_next_27 rfl rfl ?_
      refine x_aload_n (i := 0) C dX12_next_28 rfl rfl ?_
      refine x_getI C fkM_X12_278 (nlt rfl) rfl dX12_next_29 ?_
      refine x_gen (fun v5 ev5 => ?_)
      have qv5 : (2 : Int) ≤ v5 ∧ v5 ≤ 6 := by
        rw [ev5]
        exact hw
      refine x_idiv C dX12_next_32 (by omega) (by omega) ⟨by omega, by omega⟩ ⟨by omega, by omega⟩ ?_
      have n33 := md_bd (p := p) (w := v5) (by omega) (by omega)
      refine x_iload_n (i := 2) C dX12_next_33 rfl rfl ?_
      refine x_iconst C dX12_next_34 ?_
      refine x_icmp_ne (tgt := 42) C dX12_next_35 (by decide) ⟨by omega, by omega⟩ ⟨by omega, by omega⟩ (fun h6 => ?_) (fun h6 => ?_)
      · refine x_iload_n (i := 2) C dX12_next_42 rfl rfl ?_
        refine x_if_ne (tgt := 50) C dX12_next_43 (by decide) ⟨by omega, by omega⟩ (fun h7 => ?_) (fun h7 => ?_)
        · refine x_iconst C dX12_next_50 ?_
          refine x_iadd C dX12_next_51 ?_
          refine x_gen (fun v8 ev8 => ?_)
          refine x_istore (lv' := [(4, .int (iI (v8))), (3, .int (iI (v4))), (0, .ref 0), (1, .int (iI (p))), (2, .int (iI (d)))]) C dX12_next_52 (nlt rfl) rfl ?_
          refine x_iload_n (i := 3) C dX12_next_54 rfl rfl ?_
          refine x_iconst C dX12_next_55 ?_
          refine x_aload_n (i := 0) C dX12_next_56 rfl rfl ?_
          refine x_getI C fkM_X12_278 (nlt rfl) rfl dX12_next_57 ?_
          refine x_gen (fun v9 ev9 => ?_)
          have qv9 : (2 : Int) ≤ v9 ∧ v9 ≤ 6 := by
            rw [ev9]
            exact hw
          refine x_iconst C dX12_next_60 ?_
          refine x_isub C dX12_next_61 ?_
          refine x_callS (As := [.int (iI (v4)), .int (iI (0)), .int (iI (v9 - 1))]) C (by exact (q_in (v := v4) (a := 0) (b := v9 - 1) ⟨by omega, by omega⟩ ⟨by omega, by omega⟩ ⟨by omega, by omega⟩)) ckX12_165 sm_X12_in rfl rfl (nle rfl) (by exact ⟨nle rfl, nle rfl⟩) dX12_next_62 ?_
          rintro _ Xv10 ⟨hxv10, v10, rfl, ev10⟩
          rw [hxv10]
          refine Wx_st (st' := [.int (iI (v10))]) rfl ?_
          refine x_if_eq (tgt := 95) C dX12_next_65 (by decide) ⟨by omega, by omega⟩ (fun h11 => ?_) (fun h11 => ?_)
          · refine x_iconst C dX12_next_95 ?_
            exact x_iret C hQ dX12_next_96 (⟨rfl, _, rfl, .inl rfl⟩)
          · refine x_iload C dX12_next_68 rfl ?_
            refine x_iconst C dX12_next_70 ?_
            refine x_aload_n (i := 0) C dX12_next_71 rfl rfl ?_
            refine x_getI C fkM_X12_281 (nlt rfl) rfl dX12_next_72 ?_
            refine x_gen (fun v12 ev12 => ?_)
            have qv12 : (2 : Int) ≤ v12 ∧ v12 ≤ 6 := by
              rw [ev12]
              exact hh
            refine x_iconst C dX12_next_75 ?_
            refine x_isub C dX12_next_76 ?_
            refine x_callS (As := [.int (iI (v8)), .int (iI (0)), .int (iI (v12 - 1))]) C (by exact (q_in (v := v8) (a := 0) (b := v12 - 1) ⟨by omega, by omega⟩ ⟨by omega, by omega⟩ ⟨by omega, by omega⟩)) ckX12_165 sm_X12_in rfl rfl (nle rfl) (by exact ⟨nle rfl, nle rfl⟩) dX12_next_77 ?_
            rintro _ Xv13 ⟨hxv13, v13, rfl, ev13⟩
            rw [hxv13]
            refine Wx_st (st' := [.int (iI (v13))]) rfl ?_
            refine x_if_eq (tgt := 95) C dX12_next_80 (by decide) ⟨by omega, by omega⟩ (fun h14 => ?_) (fun h14 => ?_)
            · refine x_iconst C dX12_next_95 ?_
              exact x_iret C hQ dX12_next_96 (⟨rfl, _, rfl, .inl rfl⟩)
            · refine x_iload C dX12_next_83 rfl ?_
              refine x_aload_n (i := 0) C dX12_next_85 rfl rfl ?_
              refine x_getI C fkM_X12_278 (nlt rfl) rfl dX12_next_86 ?_
              refine x_gen (fun v15 ev15 => ?_)
              have qv15 : (2 : Int) ≤ v15 ∧ v15 ≤ 6 := by
                rw [ev15]
                exact hw
              refine x_imul C dX12_next_89 ?_
              refine x_iload_n (i := 3) C dX12_next_90 rfl rfl ?_
              refine x_iadd C dX12_next_91 ?_
              refine x_goto (tgt := 96) C dX12_next_92 (by decide) ?_
              exact x_iret C hQ dX12_next_96 (⟨rfl, _, rfl, .inr (yw_bd (h := v12) (by omega) (by omega) (by omega) (by omega) (by omega) (by omega))⟩)
        · refine x_iconst C dX12_next_46 ?_
          refine x_goto (tgt := 51) C dX12_next_47 (by decide) ?_
          refine x_iadd C dX12_next_51 ?_
          refine x_gen (fun v16 ev16 => ?_)
          refine x_istore (lv' := [(4, .int (iI (v16))), (3, .int (iI (v4))), (0, .ref 0), (1, .int (iI (p))), (2, .int (iI (d)))]) C dX12_next_52 (nlt rfl) rfl ?_
          refine x_iload_n (i := 3) C dX12_next_54 rfl rfl ?_
          refine x_iconst C dX12_next_55 ?_
          refine x_aload_n (i := 0) C dX12_next_56 rfl rfl ?_
          refine x_getI C fkM_X12_278 (nlt rfl) rfl dX12_next_57 ?_
          refine x_gen (fun v17 ev17 => ?_)
          have qv17 : (2 : Int) ≤ v17 ∧ v17 ≤ 6 := by
            rw [ev17]
            exact hw
          refine x_iconst C dX12_next_60 ?_
          refine x_isub C dX12_next_61 ?_
          refine x_callS (As := [.int (iI (v4)), .int (iI (0)), .int (iI (v17 - 1))]) C (by exact (q_in (v := v4) (a := 0) (b := v17 - 1) ⟨by omega, by omega⟩ ⟨by omega, by omega⟩ ⟨by omega, by omega⟩)) ckX12_165 sm_X12_in rfl rfl (nle rfl) (by exact ⟨nle rfl, nle rfl⟩) dX12_next_62 ?_
          rintro _ Xv18 ⟨hxv18, v18, rfl, ev18⟩
          rw [hxv18]
          refine Wx_st (st' := [.int (iI (v18))]) rfl ?_
          refine x_if_eq (tgt := 95) C dX12_next_65 (by decide) ⟨by omega, by omega⟩ (fun h19 => ?_) (fun h19 => ?_)
          · refine x_iconst C dX12_next_95 ?_
            exact x_iret C hQ dX12_next_96 (⟨rfl, _, rfl, .inl rfl⟩)
          · refine x_iload C dX12_next_68 rfl ?_
            refine x_iconst C dX12_next_70 ?_
            refine x_aload_n (i := 0) C dX12_next_71 rfl rfl ?_
            refine x_getI C fkM_X12_281 (nlt rfl) rfl dX12_next_72 ?_
            refine x_gen (fun v20 ev20 => ?_)
            have qv20 : (2 : Int) ≤ v20 ∧ v20 ≤ 6 := by
              rw [ev20]
              exact hh
            refine x_iconst C dX12_next_75 ?_
            refine x_isub C dX12_next_76 ?_
            refine x_callS (As := [.int (iI (v16)), .int (iI (0)), .int (iI (v20 - 1))]) C (by exact (q_in (v := v16) (a := 0) (b := v20 - 1) ⟨by omega, by omega⟩ ⟨by omega, by omega⟩ ⟨by omega, by omega⟩)) ckX12_165 sm_X12_in rfl rfl (nle rfl) (by exact ⟨nle rfl, nle rfl⟩) dX12_next_77 ?_
            rintro _ Xv21 ⟨hxv21, v21, rfl, ev21⟩
            rw [hxv21]
            refine Wx_st (st' := [.int (iI (v21))]) rfl ?_
            refine x_if_eq (tgt := 95) C dX12_next_80 (by decide) ⟨by omega, by omega⟩ (fun h22 => ?_) (fun h22 => ?_)
            · refine x_iconst C dX12_next_95 ?_
              exact x_iret C hQ dX12_next_96 (⟨rfl, _, rfl, .inl rfl⟩)
            · refine x_iload C dX12_next_83 rfl ?_
              refine x_aload_n (i := 0) C dX12_next_85 rfl rfl ?_
              refine x_getI C fkM_X12_278 (nlt rfl) rfl dX12_next_86 ?_
              refine x_gen (fun v23 ev23 => ?_)
              have qv23 : (2 : Int) ≤ v23 ∧ v23 ≤ 6 := by
                rw [ev23]
                exact hw
              refine x_imul C dX12_next_89 ?_
              refine x_iload_n (i := 3) C dX12_next_90 rfl rfl ?_
              refine x_iadd C dX12_next_91 ?_
              refine x_goto (tgt := 96) C dX12_next_92 (by decide) ?_
              exact x_iret C hQ dX12_next_96 (⟨rfl, _, rfl, .inr (yw_bd (h := v20) (by omega) (by omega) (by omega) (by omega) (by omega) (by omega))⟩)
      · refine x_iconst C dX12_next_38 ?_
        refine x_goto (tgt := 51) C dX12_next_39 (by decide) ?_
        refine x_iadd C dX12_next_51 ?_
        refine x_gen (fun v24 ev24 => ?_)
        refine x_istore (lv' := [(4, .int (iI (v24))), (3, .int (iI (v4))), (0, .ref 0), (1, .int (iI (p))), (2, .int (iI (d)))]) C dX12_next_52 (nlt rfl) rfl ?_
        refine x_iload_n (i := 3) C dX12_next_54 rfl rfl ?_
        refine x_iconst C dX12_next_55 ?_
        refine x_aload_n (i := 0) C dX12_next_56 rfl rfl ?_
        refine x_getI C fkM_X12_278 (nlt rfl) rfl dX12_next_57 ?_
        refine x_gen (fun v25 ev25 => ?_)
        have qv25 : (2 : Int) ≤ v25 ∧ v25 ≤ 6 := by
          rw [ev25]
          exact hw
        refine x_iconst C dX12_next_60 ?_
        refine x_isub C dX12_next_61 ?_
        refine x_callS (As := [.int (iI (v4)), .int (iI (0)), .int (iI (v25 - 1))]) C (by exact (q_in (v := v4) (a := 0) (b := v25 - 1) ⟨by omega, by omega⟩ ⟨by omega, by omega⟩ ⟨by omega, by omega⟩)) ckX12_165 sm_X12_in rfl rfl (nle rfl) (by exact ⟨nle rfl, nle rfl⟩) dX12_next_62 ?_
        rintro _ Xv26 ⟨hxv26, v26, rfl, ev26⟩
        rw [hxv26]
        refine Wx_st (st' := [.int (iI (v26))]) rfl ?_
        refine x_if_eq (tgt := 95) C dX12_next_65 (by decide) ⟨by omega, by omega⟩ (fun h27 => ?_) (fun h27 => ?_)
        · refine x_iconst C dX12_next_95 ?_
          exact x_iret C hQ dX12_next_96 (⟨rfl, _, rfl, .inl rfl⟩)
        · refine x_iload C dX12_next_68 rfl ?_
          refine x_iconst C dX12_next_70 ?_
          refine x_aload_n (i := 0) C dX12_next_71 rfl rfl ?_
          refine x_getI C fkM_X12_281 (nlt rfl) rfl dX12_next_72 ?_
          refine x_gen (fun v28 ev28 => ?_)
          have qv28 : (2 : Int) ≤ v28 ∧ v28 ≤ 6 := by
            rw [ev28]
            exact hh
          refine x_iconst C dX12_next_75 ?_
          refine x_isub C dX12_next_76 ?_
          refine x_callS (As := [.int (iI (v24)), .int (iI (0)), .int (iI (v28 - 1))]) C (by exact (q_in (v := v24) (a := 0) (b := v28 - 1) ⟨by omega, by omega⟩ ⟨by omega, by omega⟩ ⟨by omega, by omega⟩)) ckX12_165 sm_X12_in rfl rfl (nle rfl) (by exact ⟨nle rfl, nle rfl⟩) dX12_next_77 ?_
          rintro _ Xv29 ⟨hxv29, v29, rfl, ev29⟩
          rw [hxv29]
          refine Wx_st (st' := [.int (iI (v29))]) rfl ?_
          refine x_if_eq (tgt := 95) C dX12_next_80 (by decide) ⟨by omega, by omega⟩ (fun h30 => ?_) (fun h30 => ?_)
          · refine x_iconst C dX12_next_95 ?_
            exact x_iret C hQ dX12_next_96 (⟨rfl, _, rfl, .inl rfl⟩)
          · refine x_iload C dX12_next_83 rfl ?_
            refine x_aload_n (i := 0) C dX12_next_85 rfl rfl ?_
            refine x_getI C fkM_X12_278 (nlt rfl) rfl dX12_next_86 ?_
            refine x_gen (fun v31 ev31 => ?_)
            have qv31 : (2 : Int) ≤ v31 ∧ v31 ≤ 6 := by
              rw [ev31]
              exact hw
            refine x_imul C dX12_next_89 ?_
            refine x_iload_n (i := 3) C dX12_next_90 rfl rfl ?_
            refine x_iadd C dX12_next_91 ?_
            refine x_goto (tgt := 96) C dX12_next_92 (by decide) ?_
            exact x_iret C hQ dX12_next_96 (⟨rfl, _, rfl, .inr (yw_bd (h := v28) (by omega) (by omega) (by omega) (by omega) (by omega) (by omega))⟩)
    · refine x_iconst C dX12_next_20 ?_
      refine x_goto (tgt := 25) C dX12_next_21 (by decide) ?_
      refine x_iadd C dX12_next_25 ?_
      refine x_gen (fun v32 ev32 => ?_)
      refine x_istore_n (i := 3) (lv' := [(3, .int (iI (v32))), (0, .ref 0), (1, .int (iI (p))), (2, .int (iI (d)))]) C dX12_next_26 rfl (nlt rfl) rfl ?_
      refine x_iload_n (i := 1) C dX12_next_27 rfl rfl ?_
      refine x_aload_n (i := 0) C dX12_next_28 rfl rfl ?_
      refine x_getI C fkM_X12_278 (nlt rfl) rfl dX12_next_29 ?_
      refine x_gen (fun v33 ev33 => ?_)
      have qv33 : (2 : Int) ≤ v33 ∧ v33 ≤ 6 := by
        rw [ev33]
        exact hw
      refine x_idiv C dX12_next_32 (by omega) (by omega) ⟨by omega, by omega⟩ ⟨by omega, by omega⟩ ?_
      have n33 := md_bd (p := p) (w := v33) (by omega) (by omega)
      refine x_iload_n (i := 2) C dX12_next_33 rfl rfl ?_
      refine x_iconst C dX12_next_34 ?_
      refine x_icmp_ne (tgt := 42) C dX12_next_35 (by decide) ⟨by omega, by omega⟩ ⟨by omega, by omega⟩ (fun h34 => ?_) (fun h34 => ?_)
      · refine x_iload_n (i := 2) C dX12_next_42 rfl rfl ?_
        refine x_if_ne (tgt := 50) C dX12_next_43 (by decide) ⟨by omega, by omega⟩ (fun h35 => ?_) (fun h35 => ?_)
        · refine x_iconst C dX12_next_50 ?_
          refine x_iadd C dX12_next_51 ?_
          refine x_gen (fun v36 ev36 => ?_)
          refine x_istore (lv' := [(4, .int (iI (v36))), (3, .int (iI (v32))), (0, .ref 0), (1, .int (iI (p))), (2, .int (iI (d)))]) C dX12_next_52 (nlt rfl) rfl ?_
          refine x_iload_n (i := 3) C dX12_next_54 rfl rfl ?_
          refine x_iconst C dX12_next_55 ?_
          refine x_aload_n (i := 0) C dX12_next_56 rfl rfl ?_
          refine x_getI C fkM_X12_278 (nlt rfl) rfl dX12_next_57 ?_
          refine x_gen (fun v37 ev37 => ?_)
          have qv37 : (2 : Int) ≤ v37 ∧ v37 ≤ 6 := by
            rw [ev37]
            exact hw
          refine x_iconst C dX12_next_60 ?_
          refine x_isub C dX12_next_61 ?_
          refine x_callS (As := [.int (iI (v32)), .int (iI (0)), .int (iI (v37 - 1))]) C (by exact (q_in (v := v32) (a := 0) (b := v37 - 1) ⟨by omega, by omega⟩ ⟨by omega, by omega⟩ ⟨by omega, by omega⟩)) ckX12_165 sm_X12_in rfl rfl (nle rfl) (by exact ⟨nle rfl, nle rfl⟩) dX12_next_62 ?_
          rintro _ Xv38 ⟨hxv38, v38, rfl, ev38⟩
          rw [hxv38]
          refine Wx_st (st' := [.int (iI (v38))]) rfl ?_
          refine x_if_eq (tgt := 95) C dX12_next_65 (by decide) ⟨by omega, by omega⟩ (fun h39 => ?_) (fun h39 => ?_)
          · refine x_iconst C dX12_next_95 ?_
            exact x_iret C hQ dX12_next_96 (⟨rfl, _, rfl, .inl rfl⟩)
          · refine x_iload C dX12_next_68 rfl ?_
            refine x_iconst C dX12_next_70 ?_
            refine x_aload_n (i := 0) C dX12_next_71 rfl rfl ?_
            refine x_getI C fkM_X12_281 (nlt rfl) rfl dX12_next_72 ?_
            refine x_gen (fun v40 ev40 => ?_)
            have qv40 : (2 : Int) ≤ v40 ∧ v40 ≤ 6 := by
              rw [ev40]
              exact hh
            refine x_iconst C dX12_next_75 ?_
            refine x_isub C dX12_next_76 ?_
            refine x_callS (As := [.int (iI (v36)), .int (iI (0)), .int (iI (v40 - 1))]) C (by exact (q_in (v := v36) (a := 0) (b := v40 - 1) ⟨by omega, by omega⟩ ⟨by omega, by omega⟩ ⟨by omega, by omega⟩)) ckX12_165 sm_X12_in rfl rfl (nle rfl) (by exact ⟨nle rfl, nle rfl⟩) dX12_next_77 ?_
            rintro _ Xv41 ⟨hxv41, v41, rfl, ev41⟩
            rw [hxv41]
            refine Wx_st (st' := [.int (iI (v41))]) rfl ?_
            refine x_if_eq (tgt := 95) C dX12_next_80 (by decide) ⟨by omega, by omega⟩ (fun h42 => ?_) (fun h42 => ?_)
            · refine x_iconst C dX12_next_95 ?_
              exact x_iret C hQ dX12_next_96 (⟨rfl, _, rfl, .inl rfl⟩)
            · refine x_iload C dX12_next_83 rfl ?_
              refine x_aload_n (i := 0) C dX12_next_85 rfl rfl ?_
              refine x_getI C fkM_X12_278 (nlt rfl) rfl dX12_next_86 ?_
              refine x_gen (fun v43 ev43 => ?_)
              have qv43 : (2 : Int) ≤ v43 ∧ v43 ≤ 6 := by
                rw [ev43]
                exact hw
              refine x_imul C dX12_next_89 ?_
              refine x_iload_n (i := 3) C dX12_next_90 rfl rfl ?_
              refine x_iadd C dX12_next_91 ?_
              refine x_goto (tgt := 96) C dX12_next_92 (by decide) ?_
              exact x_iret C hQ dX12_next_96 (⟨rfl, _, rfl, .inr (yw_bd (h := v40) (by omega) (by omega) (by omega) (by omega) (by omega) (by omega))⟩)
        · refine x_iconst C dX12_next_46 ?_
          refine x_goto (tgt := 51) C dX12_next_47 (by decide) ?_
          refine x_iadd C dX12_next_51 ?_
          refine x_gen (fun v44 ev44 => ?_)
          refine x_istore (lv' := [(4, .int (iI (v44))), (3, .int (iI (v32))), (0, .ref 0), (1, .int (iI (p))), (2, .int (iI (d)))]) C dX12_next_52 (nlt rfl) rfl ?_
          refine x_iload_n (i := 3) C dX12_next_54 rfl rfl ?_
          refine x_iconst C dX12_next_55 ?_
          refine x_aload_n (i := 0) C dX12_next_56 rfl rfl ?_
          refine x_getI C fkM_X12_278 (nlt rfl) rfl dX12_next_57 ?_
          refine x_gen (fun v45 ev45 => ?_)
          have qv45 : (2 : Int) ≤ v45 ∧ v45 ≤ 6 := by
            rw [ev45]
            exact hw
          refine x_iconst C dX12_next_60 ?_
          refine x_isub C dX12_next_61 ?_
          refine x_callS (As := [.int (iI (v32)), .int (iI (0)), .int (iI (v45 - 1))]) C (by exact (q_in (v := v32) (a := 0) (b := v45 - 1) ⟨by omega, by omega⟩ ⟨by omega, by omega⟩ ⟨by omega, by omega⟩)) ckX12_165 sm_X12_in rfl rfl (nle rfl) (by exact ⟨nle rfl, nle rfl⟩) dX12_next_62 ?_
          rintro _ Xv46 ⟨hxv46, v46, rfl, ev46⟩
          rw [hxv46]
          refine Wx_st (st' := [.int (iI (v46))]) rfl ?_
          refine x_if_eq (tgt := 95) C dX12_next_65 (by decide) ⟨by omega, by omega⟩ (fun h47 => ?_) (fun h47 => ?_)
          · refine x_iconst C dX12_next_95 ?_
            exact x_iret C hQ dX12_next_96 (⟨rfl, _, rfl, .inl rfl⟩)
          · refine x_iload C dX12_next_68 rfl ?_
            refine x_iconst C dX12_next_70 ?_
            refine x_aload_n (i := 0) C dX12_next_71 rfl rfl ?_
            refine x_getI C fkM_X12_281 (nlt rfl) rfl dX12_next_72 ?_
            refine x_gen (fun v48 ev48 => ?_)
            have qv48 : (2 : Int) ≤ v48 ∧ v48 ≤ 6 := by
              rw [ev48]
              exact hh
            refine x_iconst C dX12_next_75 ?_
            refine x_isub C dX12_next_76 ?_
            refine x_callS (As := [.int (iI (v44)), .int (iI (0)), .int (iI (v48 - 1))]) C (by exact (q_in (v := v44) (a := 0) (b := v48 - 1) ⟨by omega, by omega⟩ ⟨by omega, by omega⟩ ⟨by omega, by omega⟩)) ckX12_165 sm_X12_in rfl rfl (nle rfl) (by exact ⟨nle rfl, nle rfl⟩) dX12_next_77 ?_
            rintro _ Xv49 ⟨hxv49, v49, rfl, ev49⟩
            rw [hxv49]
            refine Wx_st (st' := [.int (iI (v49))]) rfl ?_
            refine x_if_eq (tgt := 95) C dX12_next_80 (by decide) ⟨by omega, by omega⟩ (fun h50 => ?_) (fun h50 => ?_)
            · refine x_iconst C dX12_next_95 ?_
              exact x_iret C hQ dX12_next_96 (⟨rfl, _, rfl, .inl rfl⟩)
            · refine x_iload C dX12_next_83 rfl ?_
              refine x_aload_n (i := 0) C dX12_next_85 rfl rfl ?_
              refine x_getI C fkM_X12_278 (nlt rfl) rfl dX12_next_86 ?_
              refine x_gen (fun v51 ev51 => ?_)
              have qv51 : (2 : Int) ≤ v51 ∧ v51 ≤ 6 := by
                rw [ev51]
                exact hw
              refine x_imul C dX12_next_89 ?_
              refine x_iload_n (i := 3) C dX12_next_90 rfl rfl ?_
              refine x_iadd C dX12_next_91 ?_
              refine x_goto (tgt := 96) C dX12_next_92 (by decide) ?_
              exact x_iret C hQ dX12_next_96 (⟨rfl, _, rfl, .inr (yw_bd (h := v48) (by omega) (by omega) (by omega) (by omega) (by omega) (by omega))⟩)
      · refine x_iconst C dX12_next_38 ?_
        refine x_goto (tgt := 51) C dX12_next_39 (by decide) ?_
        refine x_iadd C dX12_next_51 ?_
        refine x_gen (fun v52 ev52 => ?_)
        refine x_istore (lv' := [(4, .int (iI (v52))), (3, .int (iI (v32))), (0, .ref 0), (1, .int (iI (p))), (2, .int (iI (d)))]) C dX12_next_52 (nlt rfl) rfl ?_
        refine x_iload_n (i := 3) C dX12_next_54 rfl rfl ?_
        refine x_iconst C dX12_next_55 ?_
        refine x_aload_n (i := 0) C dX12_next_56 rfl rfl ?_
        refine x_getI C fkM_X12_278 (nlt rfl) rfl dX12_next_57 ?_
        refine x_gen (fun v53 ev53 => ?_)
        have qv53 : (2 : Int) ≤ v53 ∧ v53 ≤ 6 := by
          rw [ev53]
          exact hw
        refine x_iconst C dX12_next_60 ?_
        refine x_isub C dX12_next_61 ?_
        refine x_callS (As := [.int (iI (v32)), .int (iI (0)), .int (iI (v53 - 1))]) C (by exact (q_in (v := v32) (a := 0) (b := v53 - 1) ⟨by omega, by omega⟩ ⟨by omega, by omega⟩ ⟨by omega, by omega⟩)) ckX12_165 sm_X12_in rfl rfl (nle rfl) (by exact ⟨nle rfl, nle rfl⟩) dX12_next_62 ?_
        rintro _ Xv54 ⟨hxv54, v54, rfl, ev54⟩
        rw [hxv54]
        refine Wx_st (st' := [.int (iI (v54))]) rfl ?_
        refine x_if_eq (tgt := 95) C dX12_next_65 (by decide) ⟨by omega, by omega⟩ (fun h55 => ?_) (fun h55 => ?_)
        · refine x_iconst C dX12_next_95 ?_
          exact x_iret C hQ dX12_next_96 (⟨rfl, _, rfl, .inl rfl⟩)
        · refine x_iload C dX12_next_68 rfl ?_
          refine x_iconst C dX12_next_70 ?_
          refine x_aload_n (i := 0) C dX12_next_71 rfl rfl ?_
          refine x_getI C fkM_X12_281 (nlt rfl) rfl dX12_next_72 ?_
          refine x_gen (fun v56 ev56 => ?_)
          have qv56 : (2 : Int) ≤ v56 ∧ v56 ≤ 6 := by
            rw [ev56]
            exact hh
          refine x_iconst C dX12_next_75 ?_
          refine x_isub C dX12_next_76 ?_
          refine x_callS (As := [.int (iI (v52)), .int (iI (0)), .int (iI (v56 - 1))]) C (by exact (q_in (v := v52) (a := 0) (b := v56 - 1) ⟨by omega, by omega⟩ ⟨by omega, by omega⟩ ⟨by omega, by omega⟩)) ckX12_165 sm_X12_in rfl rfl (nle rfl) (by exact ⟨nle rfl, nle rfl⟩) dX12_next_77 ?_
          rintro _ Xv57 ⟨hxv57, v57, rfl, ev57⟩
          rw [hxv57]
          refine Wx_st (st' := [.int (iI (v57))]) rfl ?_
          refine x_if_eq (tgt := 95) C dX12_next_80 (by decide) ⟨by omega, by omega⟩ (fun h58 => ?_) (fun h58 => ?_)
          · refine x_iconst C dX12_next_95 ?_
            exact x_iret C hQ dX12_next_96 (⟨rfl, _, rfl, .inl rfl⟩)
          · refine x_iload C dX12_next_83 rfl ?_
            refine x_aload_n (i := 0) C dX12_next_85 rfl rfl ?_
            refine x_getI C fkM_X12_278 (nlt rfl) rfl dX12_next_86 ?_
            refine x_gen (fun v59 ev59 => ?_)
            have qv59 : (2 : Int) ≤ v59 ∧ v59 ≤ 6 := by
              rw [ev59]
              exact hw
            refine x_imul C dX12_next_89 ?_
            refine x_iload_n (i := 3) C dX12_next_90 rfl rfl ?_
            refine x_iadd C dX12_next_91 ?_
            refine x_goto (tgt := 96) C dX12_next_92 (by decide) ?_
            exact x_iret C hQ dX12_next_96 (⟨rfl, _, rfl, .inr (yw_bd (h := v56) (by omega) (by omega) (by omega) (by omega) (by omega) (by omega))⟩)
  · refine x_iconst C dX12_next_11 ?_
    refine x_goto (tgt := 25) C dX12_next_12 (by decide) ?_
    refine x_iadd C dX12_next_25 ?_
    refine x_gen (fun v60 ev60 => ?_)
    refine x_istore_n (i := 3) (lv' := [(3, .int (iI (v60))), (0, .ref 0), (1, .int (iI (p))), (2, .int (iI (d)))]) C dX12_next_26 rfl (nlt rfl) rfl ?_
    refine x_iload_n (i := 1) C dX12_next_27 rfl rfl ?_
    refine x_aload_n (i := 0) C dX12_next_28 rfl rfl ?_
    refine x_getI C fkM_X12_278 (nlt rfl) rfl dX12_next_29 ?_
    refine x_gen (fun v61 ev61 => ?_)
    have qv61 : (2 : Int) ≤ v61 ∧ v61 ≤ 6 := by
      rw [ev61]
      exact hw
    refine x_idiv C dX12_next_32 (by omega) (by omega) ⟨by omega, by omega⟩ ⟨by omega, by omega⟩ ?_
    have n33 := md_bd (p := p) (w := v61) (by omega) (by omega)
    refine x_iload_n (i := 2) C dX12_next_33 rfl rfl ?_
    refine x_iconst C dX12_next_34 ?_
    refine x_icmp_ne (tgt := 42) C dX12_next_35 (by decide) ⟨by omega, by omega⟩ ⟨by omega, by omega⟩ (fun h62 => ?_) (fun h62 => ?_)
    · refine x_iload_n (i := 2) C dX12_next_42 rfl rfl ?_
      refine x_if_ne (tgt := 50) C dX12_next_43 (by decide) ⟨by omega, by omega⟩ (fun h63 => ?_) (fun h63 => ?_)
      · refine x_iconst C dX12_next_50 ?_
        refine x_iadd C dX12_next_51 ?_
        refine x_gen (fun v64 ev64 => ?_)
        refine x_istore (lv' := [(4, .int (iI (v64))), (3, .int (iI (v60))), (0, .ref 0), (1, .int (iI (p))), (2, .int (iI (d)))]) C dX12_next_52 (nlt rfl) rfl ?_
        refine x_iload_n (i := 3) C dX12_next_54 rfl rfl ?_
        refine x_iconst C dX12_next_55 ?_
        refine x_aload_n (i := 0) C dX12_next_56 rfl rfl ?_
        refine x_getI C fkM_X12_278 (nlt rfl) rfl dX12_next_57 ?_
        refine x_gen (fun v65 ev65 => ?_)
        have qv65 : (2 : Int) ≤ v65 ∧ v65 ≤ 6 := by
          rw [ev65]
          exact hw
        refine x_iconst C dX12_next_60 ?_
        refine x_isub C dX12_next_61 ?_
        refine x_callS (As := [.int (iI (v60)), .int (iI (0)), .int (iI (v65 - 1))]) C (by exact (q_in (v := v60) (a := 0) (b := v65 - 1) ⟨by omega, by omega⟩ ⟨by omega, by omega⟩ ⟨by omega, by omega⟩)) ckX12_165 sm_X12_in rfl rfl (nle rfl) (by exact ⟨nle rfl, nle rfl⟩) dX12_next_62 ?_
        rintro _ Xv66 ⟨hxv66, v66, rfl, ev66⟩
        rw [hxv66]
        refine Wx_st (st' := [.int (iI (v66))]) rfl ?_
        refine x_if_eq (tgt := 95) C dX12_next_65 (by decide) ⟨by omega, by omega⟩ (fun h67 => ?_) (fun h67 => ?_)
        · refine x_iconst C dX12_next_95 ?_
          exact x_iret C hQ dX12_next_96 (⟨rfl, _, rfl, .inl rfl⟩)
        · refine x_iload C dX12_next_68 rfl ?_
          refine x_iconst C dX12_next_70 ?_
          refine x_aload_n (i := 0) C dX12_next_71 rfl rfl ?_
          refine x_getI C fkM_X12_281 (nlt rfl) rfl dX12_next_72 ?_
          refine x_gen (fun v68 ev68 => ?_)
          have qv68 : (2 : Int) ≤ v68 ∧ v68 ≤ 6 := by
            rw [ev68]
            exact hh
          refine x_iconst C dX12_next_75 ?_
          refine x_isub C dX12_next_76 ?_
          refine x_callS (As := [.int (iI (v64)), .int (iI (0)), .int (iI (v68 - 1))]) C (by exact (q_in (v := v64) (a := 0) (b := v68 - 1) ⟨by omega, by omega⟩ ⟨by omega, by omega⟩ ⟨by omega, by omega⟩)) ckX12_165 sm_X12_in rfl rfl (nle rfl) (by exact ⟨nle rfl, nle rfl⟩) dX12_next_77 ?_
          rintro _ Xv69 ⟨hxv69, v69, rfl, ev69⟩
          rw [hxv69]
          refine Wx_st (st' := [.int (iI (v69))]) rfl ?_
          refine x_if_eq (tgt := 95) C dX12_next_80 (by decide) ⟨by omega, by omega⟩ (fun h70 => ?_) (fun h70 => ?_)
          · refine x_iconst C dX12_next_95 ?_
            exact x_iret C hQ dX12_next_96 (⟨rfl, _, rfl, .inl rfl⟩)
          · refine x_iload C dX12_next_83 rfl ?_
            refine x_aload_n (i := 0) C dX12_next_85 rfl rfl ?_
            refine x_getI C fkM_X12_278 (nlt rfl) rfl dX12_next_86 ?_
            refine x_gen (fun v71 ev71 => ?_)
            have qv71 : (2 : Int) ≤ v71 ∧ v71 ≤ 6 := by
              rw [ev71]
              exact hw
            refine x_imul C dX12_next_89 ?_
            refine x_iload_n (i := 3) C dX12_next_90 rfl rfl ?_
            refine x_iadd C dX12_next_91 ?_
            refine x_goto (tgt := 96) C dX12_next_92 (by decide) ?_
            exact x_iret C hQ dX12_next_96 (⟨rfl, _, rfl, .inr (yw_bd (h := v68) (by omega) (by omega) (by omega) (by omega) (by omega) (by omega))⟩)
      · refine x_iconst C dX12_next_46 ?_
        refine x_goto (tgt := 51) C dX12_next_47 (by decide) ?_
        refine x_iadd C dX12_next_51 ?_
        refine x_gen (fun v72 ev72 => ?_)
        refine x_istore (lv' := [(4, .int (iI (v72))), (3, .int (iI (v60))), (0, .ref 0), (1, .int (iI (p))), (2, .int (iI (d)))]) C dX12_next_52 (nlt rfl) rfl ?_
        refine x_iload_n (i := 3) C dX12_next_54 rfl rfl ?_
        refine x_iconst C dX12_next_55 ?_
        refine x_aload_n (i := 0) C dX12_next_56 rfl rfl ?_
        refine x_getI C fkM_X12_278 (nlt rfl) rfl dX12_next_57 ?_
        refine x_gen (fun v73 ev73 => ?_)
        have qv73 : (2 : Int) ≤ v73 ∧ v73 ≤ 6 := by
          rw [ev73]
          exact hw
        refine x_iconst C dX12_next_60 ?_
        refine x_isub C dX12_next_61 ?_
        refine x_callS (As := [.int (iI (v60)), .int (iI (0)), .int (iI (v73 - 1))]) C (by exact (q_in (v := v60) (a := 0) (b := v73 - 1) ⟨by omega, by omega⟩ ⟨by omega, by omega⟩ ⟨by omega, by omega⟩)) ckX12_165 sm_X12_in rfl rfl (nle rfl) (by exact ⟨nle rfl, nle rfl⟩) dX12_next_62 ?_
        rintro _ Xv74 ⟨hxv74, v74, rfl, ev74⟩
        rw [hxv74]
        refine Wx_st (st' := [.int (iI (v74))]) rfl ?_
        refine x_if_eq (tgt := 95) C dX12_next_65 (by decide) ⟨by omega, by omega⟩ (fun h75 => ?_) (fun h75 => ?_)
        · refine x_iconst C dX12_next_95 ?_
          exact x_iret C hQ dX12_next_96 (⟨rfl, _, rfl, .inl rfl⟩)
        · refine x_iload C dX12_next_68 rfl ?_
          refine x_iconst C dX12_next_70 ?_
          refine x_aload_n (i := 0) C dX12_next_71 rfl rfl ?_
          refine x_getI C fkM_X12_281 (nlt rfl) rfl dX12_next_72 ?_
          refine x_gen (fun v76 ev76 => ?_)
          have qv76 : (2 : Int) ≤ v76 ∧ v76 ≤ 6 := by
            rw [ev76]
            exact hh
          refine x_iconst C dX12_next_75 ?_
          refine x_isub C dX12_next_76 ?_
          refine x_callS (As := [.int (iI (v72)), .int (iI (0)), .int (iI (v76 - 1))]) C (by exact (q_in (v := v72) (a := 0) (b := v76 - 1) ⟨by omega, by omega⟩ ⟨by omega, by omega⟩ ⟨by omega, by omega⟩)) ckX12_165 sm_X12_in rfl rfl (nle rfl) (by exact ⟨nle rfl, nle rfl⟩) dX12_next_77 ?_
          rintro _ Xv77 ⟨hxv77, v77, rfl, ev77⟩
          rw [hxv77]
          refine Wx_st (st' := [.int (iI (v77))]) rfl ?_
          refine x_if_eq (tgt := 95) C dX12_next_80 (by decide) ⟨by omega, by omega⟩ (fun h78 => ?_) (fun h78 => ?_)
          · refine x_iconst C dX12_next_95 ?_
            exact x_iret C hQ dX12_next_96 (⟨rfl, _, rfl, .inl rfl⟩)
          · refine x_iload C dX12_next_83 rfl ?_
            refine x_aload_n (i := 0) C dX12_next_85 rfl rfl ?_
            refine x_getI C fkM_X12_278 (nlt rfl) rfl dX12_next_86 ?_
            refine x_gen (fun v79 ev79 => ?_)
            have qv79 : (2 : Int) ≤ v79 ∧ v79 ≤ 6 := by
              rw [ev79]
              exact hw
            refine x_imul C dX12_next_89 ?_
            refine x_iload_n (i := 3) C dX12_next_90 rfl rfl ?_
            refine x_iadd C dX12_next_91 ?_
            refine x_goto (tgt := 96) C dX12_next_92 (by decide) ?_
            exact x_iret C hQ dX12_next_96 (⟨rfl, _, rfl, .inr (yw_bd (h := v76) (by omega) (by omega) (by omega) (by omega) (by omega) (by omega))⟩)
    · refine x_iconst C dX12_next_38 ?_
      refine x_goto (tgt := 51) C dX12_next_39 (by decide) ?_
      refine x_iadd C dX12_next_51 ?_
      refine x_gen (fun v80 ev80 => ?_)
      refine x_istore (lv' := [(4, .int (iI (v80))), (3, .int (iI (v60))), (0, .ref 0), (1, .int (iI (p))), (2, .int (iI (d)))]) C dX12_next_52 (nlt rfl) rfl ?_
      refine x_iload_n (i := 3) C dX12_next_54 rfl rfl ?_
      refine x_iconst C dX12_next_55 ?_
      refine x_aload_n (i := 0) C dX12_next_56 rfl rfl ?_
      refine x_getI C fkM_X12_278 (nlt rfl) rfl dX12_next_57 ?_
      refine x_gen (fun v81 ev81 => ?_)
      have qv81 : (2 : Int) ≤ v81 ∧ v81 ≤ 6 := by
        rw [ev81]
        exact hw
      refine x_iconst C dX12_next_60 ?_
      refine x_isub C dX12_next_61 ?_
      refine x_callS (As := [.int (iI (v60)), .int (iI (0)), .int (iI (v81 - 1))]) C (by exact (q_in (v := v60) (a := 0) (b := v81 - 1) ⟨by omega, by omega⟩ ⟨by omega, by omega⟩ ⟨by omega, by omega⟩)) ckX12_165 sm_X12_in rfl rfl (nle rfl) (by exact ⟨nle rfl, nle rfl⟩) dX12_next_62 ?_
      rintro _ Xv82 ⟨hxv82, v82, rfl, ev82⟩
      rw [hxv82]
      refine Wx_st (st' := [.int (iI (v82))]) rfl ?_
      refine x_if_eq (tgt := 95) C dX12_next_65 (by decide) ⟨by omega, by omega⟩ (fun h83 => ?_) (fun h83 => ?_)
      · refine x_iconst C dX12_next_95 ?_
        exact x_iret C hQ dX12_next_96 (⟨rfl, _, rfl, .inl rfl⟩)
      · refine x_iload C dX12_next_68 rfl ?_
        refine x_iconst C dX12_next_70 ?_
        refine x_aload_n (i := 0) C dX12_next_71 rfl rfl ?_
        refine x_getI C fkM_X12_281 (nlt rfl) rfl dX12_next_72 ?_
        refine x_gen (fun v84 ev84 => ?_)
        have qv84 : (2 : Int) ≤ v84 ∧ v84 ≤ 6 := by
          rw [ev84]
          exact hh
        refine x_iconst C dX12_next_75 ?_
        refine x_isub C dX12_next_76 ?_
        refine x_callS (As := [.int (iI (v80)), .int (iI (0)), .int (iI (v84 - 1))]) C (by exact (q_in (v := v80) (a := 0) (b := v84 - 1) ⟨by omega, by omega⟩ ⟨by omega, by omega⟩ ⟨by omega, by omega⟩)) ckX12_165 sm_X12_in rfl rfl (nle rfl) (by exact ⟨nle rfl, nle rfl⟩) dX12_next_77 ?_
        rintro _ Xv85 ⟨hxv85, v85, rfl, ev85⟩
        rw [hxv85]
        refine Wx_st (st' := [.int (iI (v85))]) rfl ?_
        refine x_if_eq (tgt := 95) C dX12_next_80 (by decide) ⟨by omega, by omega⟩ (fun h86 => ?_) (fun h86 => ?_)
        · refine x_iconst C dX12_next_95 ?_
          exact x_iret C hQ dX12_next_96 (⟨rfl, _, rfl, .inl rfl⟩)
        · refine x_iload C dX12_next_83 rfl ?_
          refine x_aload_n (i := 0) C dX12_next_85 rfl rfl ?_
          refine x_getI C fkM_X12_278 (nlt rfl) rfl dX12_next_86 ?_
          refine x_gen (fun v87 ev87 => ?_)
          have qv87 : (2 : Int) ≤ v87 ∧ v87 ≤ 6 := by
            rw [ev87]
            exact hw
          refine x_imul C dX12_next_89 ?_
          refine x_iload_n (i := 3) C dX12_next_90 rfl rfl ?_
          refine x_iadd C dX12_next_91 ?_
          refine x_goto (tgt := 96) C dX12_next_92 (by decide) ?_
          exact x_iret C hQ dX12_next_96 (⟨rfl, _, rfl, .inr (yw_bd (h := v84) (by omega) (by omega) (by omega) (by omega) (by omega) (by omega))⟩)
set_option maxRecDepth 10000 in
theorem t_M_36 {D : va_G} {ad : Nat → Nat} {cA : Nat → ClassId} : CTR mtM vM gM (wM D ad cA) k_M_36 := by
  intro g X hpre
  obtain ⟨h00, hei, hel, hdl, hH, hE⟩ := hpre
  have h0 : (0 : Int) ≤ g.1 0 ∧ g.1 0 ≤ (0 : Int) := hei 0 _ rfl
  have h1 : ((-1) : Int) ≤ g.1 1 ∧ g.1 1 ≤ (35 : Int) := hei 1 _ rfl
  have h2 : (0 : Int) ≤ g.1 2 ∧ g.1 2 ≤ (3 : Int) := hei 2 _ rfl
  have h3 : (2 : Int) ≤ g.1 3 ∧ g.1 3 ≤ (6 : Int) := hei 3 _ rfl
  have h4 : (2 : Int) ≤ g.1 4 ∧ g.1 4 ≤ (6 : Int) := hei 4 _ rfl
  have e0 : X.1 0 22 = g.1 3 + 0 := (hdl ((0, 22), (0, 3, 0)) (.head _))
  have e1 : X.1 0 23 = g.1 4 + 0 := (hdl ((0, 23), (0, 4, 0)) (.tail _ (.head _)))
  have fin : ∀ r X1, (X1 = X ∧ ∃ u : Int, r = some (.int (iI u)) ∧ (u = -1 ∨ (0 ≤ u ∧ u ≤ 35))) → altP vM gM k_M_36 g X r X1 := by
    intro r X1 hp
    obtain ⟨rfl, u, rfl, rfl | hu⟩ := hp
    · exact (altM_mk 0 [(-1)] rfl (ei_cons ⟨by show (0 : Int) ≤ g.1 0; omega, by show g.1 0 ≤ (0 : Int); omega⟩ (ei_cons ⟨by show ((-1) : Int) ≤ g.1 1; omega, by show g.1 1 ≤ (35 : Int); omega⟩ (ei_cons ⟨by show (0 : Int) ≤ g.1 2; omega, by show g.1 2 ≤ (3 : Int); omega⟩ (ei_cons ⟨by show (2 : Int) ≤ g.1 3; omega, by show g.1 3 ≤ (6 : Int); omega⟩ (ei_cons ⟨by show (2 : Int) ≤ g.1 4; omega, by show g.1 4 ≤ (6 : Int); omega⟩ (ei_cons ⟨by show ((-1) : Int) ≤ (-1); omega, by show (-1) ≤ ((-1) : Int); omega⟩ ei_nil)))))) el_nil (by rfl) dl_nil gd_nil hH hE FR.rf)
    · exact (altM_mk 1 [u] rfl (ei_cons ⟨by show (0 : Int) ≤ g.1 0; omega, by show g.1 0 ≤ (0 : Int); omega⟩ (ei_cons ⟨by show ((-1) : Int) ≤ g.1 1; omega, by show g.1 1 ≤ (35 : Int); omega⟩ (ei_cons ⟨by show (0 : Int) ≤ g.1 2; omega, by show g.1 2 ≤ (3 : Int); omega⟩ (ei_cons ⟨by show (2 : Int) ≤ g.1 3; omega, by show g.1 3 ≤ (6 : Int); omega⟩ (ei_cons ⟨by show (2 : Int) ≤ g.1 4; omega, by show g.1 4 ≤ (6 : Int); omega⟩ (ei_cons ⟨by show (0 : Int) ≤ u; omega, by show u ≤ (35 : Int); omega⟩ ei_nil)))))) el_nil (res_v rfl) dl_nil gd_nil hH hE FR.rf)
  rcases (show g.1 1 + 0 = -1 ∨ 0 ≤ g.1 1 + 0 by omega) with hz | hz
  · have ea : (cAr k_M_36).map (dn g) = [.ref 0, .int (iI (-1)), .int (iI (g.1 2 + 0))] := by
      show [_, Value.int (iI (g.1 1 + 0)), _] = _
      rw [hz]
      rfl
    rw [ea]
    exact MetX.imp fin (q_nextN (X := X) (d := g.1 2 + 0) (by omega) (by omega) ⟨by omega, by omega⟩ ⟨by omega, by omega⟩)
  · exact MetX.imp fin (q_next (X := X) (p := g.1 1 + 0) (d := g.1 2 + 0) (by omega) (by omega) ⟨by omega, by omega⟩ ⟨by omega, by omega⟩ (by omega) (by omega))
set_option maxHeartbeats 4000000 in
set_option maxRecDepth 100000 in
theorem q_has {D : va_G} {ad : Nat → Nat} {cA : Nat → ClassId} {X : XT} {z : Int64} {i : Int} : MetX (wM D ad cA) yX12_has cX12_has 3 (some .boolean) 0 0 [.long (z), .int (iI (i))] X (fun r X' => X' = X ∧ ∃ u : Int, r = some (.int (iI u)) ∧ (u = 0 ∨ u = 1)) := by
  refine MetX.mk (own := RX12) (by decide +kernel) rfl (nle rfl) (fun E C hQ => ?_)
  refine Wx_lv (lv' := [(0, .long (z)), (2, .int (iI (i)))]) rfl ?_
  refine x_lload_n (i := 0) C dX12_has_0 rfl rfl ?_
  refine x_iload_n (i := 2) C dX12_has_1 rfl rfl ?_
  refine x_lshr C dX12_has_2 ?_
  refine x_genL (fun l1 el1 => ?_)
  refine x_lconst C dX12_has_3 ?_
  refine x_eqL (b := 1) rfl ?_
  refine x_land C dX12_has_4 ?_
  refine x_genL (fun l2 el2 => ?_)
  refine x_lconst C dX12_has_5 ?_
  refine x_eqL (b := 1) rfl ?_
  refine x_lcmp C dX12_has_6 ?_
  refine x_topi (fun v3 rv3 ev3 => ?_)
  have cv3 := lcmp_iff rv3 ev3
  unfold inR at rv3
  refine x_if_ne (tgt := 14) C dX12_has_7 (by decide) ⟨by omega, by omega⟩ (fun h4 => ?_) (fun h4 => ?_)
  · refine x_iconst C dX12_has_14 ?_
    exact x_zret C hQ (by omega) dX12_has_15 (⟨rfl, _, rfl, by omega⟩)
  · refine x_iconst C dX12_has_10 ?_
    refine x_goto (tgt := 15) C dX12_has_11 (by decide) ?_
    exact x_zret C hQ (by omega) dX12_has_15 (⟨rfl, _, rfl, by omega⟩)
set_option maxHeartbeats 4000000 in
set_option maxRecDepth 100000 in
theorem lq_ones {D : va_G} {ad : Nat → Nat} {cA : Nat → ClassId} {X : XT} {z : Int64} {E : ET} (C : CX E (wM D ad cA) cX12_ones 4 RX12 (some .int) { frames := 1, cells := 0, slots := 0, locals := 22 }) (hQ : EQ E (wM D ad cA) (fun r X' => X' = X ∧ ∃ u : Int, r = some (.int (iI u)) ∧ 0 ≤ u ∧ u ≤ 36)) : ∀ (n : Nat) (a : Int) (i : Int), 36 - i < n → 0 ≤ i → i ≤ 36 → 0 ≤ a → a ≤ i → Wx E (wM D ad cA) 4 (PX (wM D ad cA) X) 4 [(3, .int (iI (i))), (2, .int (iI (a))), (0, .long (z))] [] := by
  intro n
  induction n with
  | zero => intro a i hn i0 i1 a0 a1; exfalso; omega
  | succ n ih =>
    intro a i hn i0 i1 a0 a1
    refine x_iload_n (i := 3) C dX12_ones_4 rfl rfl ?_
    refine x_bipush C dX12_ones_5 (by decide) ?_
    refine x_icmp_ge (tgt := 32) C dX12_ones_7 (by decide) ⟨by omega, by omega⟩ ⟨by omega, by omega⟩ (fun h1 => ?_) (fun h1 => ?_)
    · refine x_iload_n (i := 2) C dX12_ones_32 rfl rfl ?_
      exact x_iret C hQ dX12_ones_33 (⟨rfl, _, rfl, by omega, by omega⟩)
    · refine x_iload_n (i := 2) C dX12_ones_10 rfl rfl ?_
      refine x_lload_n (i := 0) C dX12_ones_11 rfl rfl ?_
      refine x_iload_n (i := 3) C dX12_ones_12 rfl rfl ?_
      refine x_callS (As := [.long (z), .int (iI (i))]) C (by exact (q_has (z := z) (i := i))) ckX12_299 sm_X12_has rfl rfl (nle rfl) (by exact ⟨nle rfl, nle rfl⟩) dX12_ones_13 ?_
      rintro _ Xv2 ⟨hxv2, v2, rfl, ev2⟩
      rw [hxv2]
      refine Wx_st (st' := [.int (iI (v2)), .int (iI (a))]) rfl ?_
      refine x_if_eq (tgt := 23) C dX12_ones_16 (by decide) ⟨by omega, by omega⟩ (fun h3 => ?_) (fun h3 => ?_)
      · refine x_iconst C dX12_ones_23 ?_
        refine x_iadd C dX12_ones_24 ?_
        refine x_gen (fun v4 ev4 => ?_)
        refine x_istore_n (i := 2) (lv' := [(2, .int (iI (v4))), (3, .int (iI (i))), (0, .long (z))]) C dX12_ones_25 rfl (nlt rfl) rfl ?_
        refine x_iinc (lv' := [(3, .int (iI (i + 1))), (2, .int (iI (v4))), (0, .long (z))]) C dX12_ones_26 rfl (nlt rfl) rfl ?_
        refine x_goto (tgt := 4) C dX12_ones_29 (by decide) ?_
        exact ih _ _ (by omega) (by omega) (by omega) (by omega) (by omega)
      · refine x_iconst C dX12_ones_19 ?_
        refine x_goto (tgt := 24) C dX12_ones_20 (by decide) ?_
        refine x_iadd C dX12_ones_24 ?_
        refine x_gen (fun v5 ev5 => ?_)
        refine x_istore_n (i := 2) (lv' := [(2, .int (iI (v5))), (3, .int (iI (i))), (0, .long (z))]) C dX12_ones_25 rfl (nlt rfl) rfl ?_
        refine x_iinc (lv' := [(3, .int (iI (i + 1))), (2, .int (iI (v5))), (0, .long (z))]) C dX12_ones_26 rfl (nlt rfl) rfl ?_
        refine x_goto (tgt := 4) C dX12_ones_29 (by decide) ?_
        exact ih _ _ (by omega) (by omega) (by omega) (by omega) (by omega)
set_option maxHeartbeats 4000000 in
set_option maxRecDepth 100000 in
theorem q_ones {D : va_G} {ad : Nat → Nat} {cA : Nat → ClassId} {X : XT} {z : Int64} : MetX (wM D ad cA) yX12_ones cX12_ones 4 (some .int) 1 22 [.long (z)] X (fun r X' => X' = X ∧ ∃ u : Int, r = some (.int (iI u)) ∧ 0 ≤ u ∧ u ≤ 36) := by
  refine MetX.mk (own := RX12) (by decide +kernel) rfl (nle rfl) (fun E C hQ => ?_)
  refine Wx_lv (lv' := [(0, .long (z))]) rfl ?_
  refine x_iconst C dX12_ones_0 ?_
  refine x_istore_n (i := 2) (lv' := [(2, .int (iI (0))), (0, .long (z))]) C dX12_ones_1 rfl (nlt rfl) rfl ?_
  refine x_iconst C dX12_ones_2 ?_
  refine x_istore_n (i := 3) (lv' := [(3, .int (iI (0))), (2, .int (iI (0))), (0, .long (z))]) C dX12_ones_3 rfl (nlt rfl) rfl ?_
  exact lq_ones C hQ 700 0 0 (by omega) (by omega) (by omega) (by omega) (by omega)
set_option maxRecDepth 10000 in
theorem t_M_11 {D : va_G} {ad : Nat → Nat} {cA : Nat → ClassId} : CTR mtM vM gM (wM D ad cA) k_M_11 := by
  intro g X hpre
  obtain ⟨h00, hei, hel, hdl, hH, hE⟩ := hpre
  have h0 : (0 : Int) ≤ g.1 0 ∧ g.1 0 ≤ (0 : Int) := hei 0 _ rfl
  refine MetX.imp (fun r X1 hp => ?_) (q_ones (X := X) (z := g.2 0))
  obtain ⟨rfl, u, rfl, u0, u1⟩ := hp
  exact (altM_mk 0 [u] rfl (ei_cons ⟨by show (0 : Int) ≤ g.1 0; omega, by show g.1 0 ≤ (0 : Int); omega⟩ (ei_cons ⟨by show (0 : Int) ≤ u; omega, by show u ≤ (36 : Int); omega⟩ ei_nil)) (el_cons (hel 0 _ rfl) el_nil) (res_v rfl) dl_nil gd_nil hH hE FR.rf)
def mvI (q : Nat) : IV := cond (Nat.beq q 0) (-1, 35) (cond (Nat.beq q 1) (0, 9) (0, 10))
theorem gmv_t : ∀ k : Nat, k < 30 → ∀ q : Nat, q < 11 → perG ((vGI vM).getD 8 []) (1 + 11 * k + q) = some (mvI q) := by decide +kernel
theorem gmv_p {j n : Nat} : perG ((vGI vM).getD 8 []) (331 * j + n) = perG ((vGI vM).getD 8 []) n := by
  unfold perG
  rw [show ((vGI vM).getD 8 []).length = 331 by decide +kernel, Nat.mul_add_mod]
theorem gmI {X : XT} (hH : HG vM X) {j : Nat} (hj : j < 2) {k : Nat} (hk : k < 30) {q : Nat} (hq : q < 11) : (mvI q).1 ≤ X.1 8 (331 * j + (1 + 11 * k + q)) ∧ X.1 8 (331 * j + (1 + 11 * k + q)) ≤ (mvI q).2 :=
  hH.1 8 _ _ (plK_a (t := 0) (n := 2648) (nlt rfl) rfl (by omega)) (gmv_p.trans (gmv_t k hk q hq))
set_option maxHeartbeats 4000000 in
set_option maxRecDepth 100000 in
theorem qm_moveOf {D : va_G} {ad : Nat → Nat} {cA : Nat → ClassId} {X : XT} {k q : Int} (k0 : 0 ≤ k ∧ k ≤ 29) (q0 : 0 ≤ q ∧ q ≤ 10) (hH : HG vM X) : MetX (wM D ad cA) yX12_moveOf cX12_moveOf 3 (some .int) 0 0 [.ref 0, .int (iI (k)), .int (iI (q))] X (fun r X' => X' = X ∧ ∃ u : Int, r = some (.int (iI u)) ∧ ∃ g : Int, (0 ≤ g ∧ g ≤ 1) ∧ u = X.1 8 (331 * g + 1 + 11 * k + q).toNat) := by
  refine MetX.mk (own := RX12) (by decide +kernel) rfl (nle rfl) (fun E C hQ => ?_)
  refine Wx_lv (lv' := [(0, .ref 0), (1, .int (iI (k))), (2, .int (iI (q)))]) rfl ?_
  refine x_aload_n (i := 0) C dX12_moveOf_0 rfl rfl ?_
  refine x_getRs (r := 8) C fkM_X12_32 (nlt rfl) rfl (HG.rR hH (k := 0) (i := 8) rfl rfl) dX12_moveOf_1 ?_
  refine x_sipush C dX12_moveOf_4 (by decide) ?_
  refine x_aload_n (i := 0) C dX12_moveOf_7 rfl rfl ?_
  refine x_getI C fkM_X12_430 (nlt rfl) rfl dX12_moveOf_8 ?_
  refine x_gen (fun v1 ev1 => ?_)
  have qv1 : (0 : Int) ≤ v1 ∧ v1 ≤ (1 : Int) := by
    rw [ev1]
    exact hH.rF (k := 0) (i := 59) rfl rfl
  refine x_imul C dX12_moveOf_11 ?_
  refine x_iconst C dX12_moveOf_12 ?_
  refine x_iadd C dX12_moveOf_13 ?_
  refine x_bipush C dX12_moveOf_14 (by decide) ?_
  refine x_iload_n (i := 1) C dX12_moveOf_16 rfl rfl ?_
  refine x_imul C dX12_moveOf_17 ?_
  refine x_iadd C dX12_moveOf_18 ?_
  refine x_iload_n (i := 2) C dX12_moveOf_19 rfl rfl ?_
  refine x_iadd C dX12_moveOf_20 ?_
  refine x_iald C (nlt rfl) rfl rfl (nle rfl) (by omega) (by omega) dX12_moveOf_21 ?_
  refine x_gen (fun v2 ev2 => ?_)
  have qv2 : ((-1) : Int) ≤ v2 ∧ v2 ≤ (35 : Int) := by
    rw [ev2]
    exact hH.rA (k := 8) (n := 2648) (p := ((-1), 35)) (nlt rfl) rfl (by decide +kernel) (by omega)
  exact x_iret C hQ dX12_moveOf_22 (⟨rfl, _, rfl, v1, ⟨by omega, by omega⟩, by rw [ev2]⟩)
set_option maxRecDepth 10000 in
theorem t_M_113 {D : va_G} {ad : Nat → Nat} {cA : Nat → ClassId} : CTR mtM vM gM (wM D ad cA) k_M_113 := by
  intro g X hpre
  obtain ⟨h00, hei, hel, hdl, hH, hE⟩ := hpre
  have h0 : (0 : Int) ≤ g.1 0 ∧ g.1 0 ≤ (0 : Int) := hei 0 _ rfl
  have h1 : (0 : Int) ≤ g.1 1 ∧ g.1 1 ≤ (29 : Int) := hei 1 _ rfl
  have h2 : (0 : Int) ≤ g.1 2 ∧ g.1 2 ≤ (0 : Int) := hei 2 _ rfl
  refine MetX.imp (fun r X1 hp => ?_) (qm_moveOf (X := X) (k := g.1 1 + 0) (q := g.1 2 + 0) ⟨by omega, by omega⟩ ⟨by omega, by omega⟩ hH)
  obtain ⟨rfl, u, rfl, j, hj, hu⟩ := hp
  have b := gmI (j := j.toNat) (k := (g.1 1).toNat) (q := (g.1 2).toNat) hH (by omega) (by omega) (by omega)
  rw [show 331 * j.toNat + (1 + 11 * (g.1 1).toNat + (g.1 2).toNat) = (331 * j + 1 + 11 * (g.1 1 + 0) + (g.1 2 + 0)).toNat by omega, ← hu] at b
  rw [show (g.1 2).toNat = 0 by omega] at b
  have b : ((-1) : Int) ≤ u ∧ u ≤ 35 := b
  exact (altM_mk 0 [u] rfl (ei_cons ⟨by show (0 : Int) ≤ g.1 0; omega, by show g.1 0 ≤ (0 : Int); omega⟩ (ei_cons ⟨by show (0 : Int) ≤ g.1 1; omega, by show g.1 1 ≤ (29 : Int); omega⟩ (ei_cons ⟨by show (0 : Int) ≤ g.1 2; omega, by show g.1 2 ≤ (0 : Int); omega⟩ (ei_cons ⟨by show ((-1) : Int) ≤ u; omega, by show u ≤ (35 : Int); omega⟩ ei_nil)))) el_nil (res_v rfl) dl_nil gd_nil hH hE FR.rf)
set_option maxRecDepth 10000 in
theorem t_M_105 {D : va_G} {ad : Nat → Nat} {cA : Nat → ClassId} : CTR mtM vM gM (wM D ad cA) k_M_105 := by
  intro g X hpre
  obtain ⟨h00, hei, hel, hdl, hH, hE⟩ := hpre
  have h0 : (0 : Int) ≤ g.1 0 ∧ g.1 0 ≤ (0 : Int) := hei 0 _ rfl
  have h1 : (0 : Int) ≤ g.1 1 ∧ g.1 1 ≤ (29 : Int) := hei 1 _ rfl
  have h2 : (0 : Int) ≤ g.1 2 ∧ g.1 2 ≤ (10 : Int) := hei 2 _ rfl
  refine MetX.imp (fun r X1 hp => ?_) (qm_moveOf (X := X) (k := g.1 1 + 0) (q := g.1 2 + 0) ⟨by omega, by omega⟩ ⟨by omega, by omega⟩ hH)
  obtain ⟨rfl, u, rfl, j, hj, hu⟩ := hp
  have b := gmI (j := j.toNat) (k := (g.1 1).toNat) (q := (g.1 2).toNat) hH (by omega) (by omega) (by omega)
  rw [show 331 * j.toNat + (1 + 11 * (g.1 1).toNat + (g.1 2).toNat) = (331 * j + 1 + 11 * (g.1 1 + 0) + (g.1 2 + 0)).toNat by omega, ← hu] at b
  have b : (-1 : Int) ≤ u ∧ u ≤ 35 := by
    unfold mvI at b
    cases e0 : Nat.beq (g.1 2).toNat 0
    · rw [e0] at b
      cases e1 : Nat.beq (g.1 2).toNat 1
      · rw [e1] at b
        have b : (0 : Int) ≤ u ∧ u ≤ 10 := b
        omega
      · rw [e1] at b
        have b : (0 : Int) ≤ u ∧ u ≤ 9 := b
        omega
    · rw [e0] at b
      exact b
  exact (altM_mk 0 [u] rfl (ei_cons ⟨by show (0 : Int) ≤ g.1 0; omega, by show g.1 0 ≤ (0 : Int); omega⟩ (ei_cons ⟨by show (0 : Int) ≤ g.1 1; omega, by show g.1 1 ≤ (29 : Int); omega⟩ (ei_cons ⟨by show (0 : Int) ≤ g.1 2; omega, by show g.1 2 ≤ (10 : Int); omega⟩ (ei_cons ⟨by show ((-1) : Int) ≤ u; omega, by show u ≤ (35 : Int); omega⟩ ei_nil)))) el_nil (res_v rfl) dl_nil gd_nil hH hE FR.rf)
set_option maxRecDepth 10000 in
theorem t_M_106 {D : va_G} {ad : Nat → Nat} {cA : Nat → ClassId} : CTR mtM vM gM (wM D ad cA) k_M_106 := by
  intro g X hpre
  obtain ⟨h00, hei, hel, hdl, hH, hE⟩ := hpre
  have h0 : (0 : Int) ≤ g.1 0 ∧ g.1 0 ≤ (0 : Int) := hei 0 _ rfl
  have h1 : (0 : Int) ≤ g.1 1 ∧ g.1 1 ≤ (29 : Int) := hei 1 _ rfl
  have h2 : (1 : Int) ≤ g.1 2 ∧ g.1 2 ≤ (1 : Int) := hei 2 _ rfl
  refine MetX.imp (fun r X1 hp => ?_) (qm_moveOf (X := X) (k := g.1 1 + 0) (q := g.1 2 + 0) ⟨by omega, by omega⟩ ⟨by omega, by omega⟩ hH)
  obtain ⟨rfl, u, rfl, j, hj, hu⟩ := hp
  have b := gmI (j := j.toNat) (k := (g.1 1).toNat) (q := (g.1 2).toNat) hH (by omega) (by omega) (by omega)
  rw [show 331 * j.toNat + (1 + 11 * (g.1 1).toNat + (g.1 2).toNat) = (331 * j + 1 + 11 * (g.1 1 + 0) + (g.1 2 + 0)).toNat by omega, ← hu] at b
  rw [show (g.1 2).toNat = 1 by omega] at b
  have b : (0 : Int) ≤ u ∧ u ≤ 9 := b
  exact (altM_mk 0 [u] rfl (ei_cons ⟨by show (0 : Int) ≤ g.1 0; omega, by show g.1 0 ≤ (0 : Int); omega⟩ (ei_cons ⟨by show (0 : Int) ≤ g.1 1; omega, by show g.1 1 ≤ (29 : Int); omega⟩ (ei_cons ⟨by show (1 : Int) ≤ g.1 2; omega, by show g.1 2 ≤ (1 : Int); omega⟩ (ei_cons ⟨by show (0 : Int) ≤ u; omega, by show u ≤ (9 : Int); omega⟩ ei_nil)))) el_nil (res_v rfl) dl_nil gd_nil hH hE FR.rf)
set_option maxRecDepth 10000 in
theorem t_M_107 {D : va_G} {ad : Nat → Nat} {cA : Nat → ClassId} : CTR mtM vM gM (wM D ad cA) k_M_107 := by
  intro g X hpre
  obtain ⟨h00, hei, hel, hdl, hH, hE⟩ := hpre
  have h0 : (0 : Int) ≤ g.1 0 ∧ g.1 0 ≤ (0 : Int) := hei 0 _ rfl
  have h1 : (0 : Int) ≤ g.1 1 ∧ g.1 1 ≤ (29 : Int) := hei 1 _ rfl
  have h2 : (2 : Int) ≤ g.1 2 ∧ g.1 2 ≤ (10 : Int) := hei 2 _ rfl
  refine MetX.imp (fun r X1 hp => ?_) (qm_moveOf (X := X) (k := g.1 1 + 0) (q := g.1 2 + 0) ⟨by omega, by omega⟩ ⟨by omega, by omega⟩ hH)
  obtain ⟨rfl, u, rfl, j, hj, hu⟩ := hp
  have b := gmI (j := j.toNat) (k := (g.1 1).toNat) (q := (g.1 2).toNat) hH (by omega) (by omega) (by omega)
  rw [show 331 * j.toNat + (1 + 11 * (g.1 1).toNat + (g.1 2).toNat) = (331 * j + 1 + 11 * (g.1 1 + 0) + (g.1 2 + 0)).toNat by omega, ← hu] at b
  have b : (0 : Int) ≤ u ∧ u ≤ 10 := by
    unfold mvI at b
    rw [show Nat.beq (g.1 2).toNat 0 = false from by rw [← Bool.not_eq_true, Nat.beq_eq]; omega, show Nat.beq (g.1 2).toNat 1 = false from by rw [← Bool.not_eq_true, Nat.beq_eq]; omega] at b
    exact b
  exact (altM_mk 0 [u] rfl (ei_cons ⟨by show (0 : Int) ≤ g.1 0; omega, by show g.1 0 ≤ (0 : Int); omega⟩ (ei_cons ⟨by show (0 : Int) ≤ g.1 1; omega, by show g.1 1 ≤ (29 : Int); omega⟩ (ei_cons ⟨by show (2 : Int) ≤ g.1 2; omega, by show g.1 2 ≤ (10 : Int); omega⟩ (ei_cons ⟨by show (0 : Int) ≤ u; omega, by show u ≤ (10 : Int); omega⟩ ei_nil)))) el_nil (res_v rfl) dl_nil gd_nil hH hE FR.rf)
