theorem dX7_isStanding_10 : decode cX7_isStanding 10 = .ok (.if_icmp .ne 17, 3) := by decide +kernel
theorem dX7_isStanding_13 : decode cX7_isStanding 13 = .ok (.aload_n 0, 1) := by decide +kernel
theorem dX7_isStanding_14 : decode cX7_isStanding 14 = .ok (.getfield 9, 3) := by decide +kernel
theorem dX7_isStanding_17 : decode cX7_isStanding 17 = .ok (.iload_n 1, 1) := by decide +kernel
theorem dX7_isStanding_18 : decode cX7_isStanding 18 = .ok (.iaload, 1) := by decide +kernel
theorem dX7_isStanding_19 : decode cX7_isStanding 19 = .ok (.iconst (-1), 1) := by decide +kernel
theorem dX7_isStanding_20 : decode cX7_isStanding 20 = .ok (.if_icmp .eq 7, 3) := by decide +kernel
theorem dX7_isStanding_23 : decode cX7_isStanding 23 = .ok (.iconst 1, 1) := by decide +kernel
theorem dX7_isStanding_24 : decode cX7_isStanding 24 = .ok (.goto 4, 3) := by decide +kernel
theorem dX7_isStanding_27 : decode cX7_isStanding 27 = .ok (.iconst 0, 1) := by decide +kernel
theorem dX7_isStanding_28 : decode cX7_isStanding 28 = .ok (.ireturn, 1) := by decide +kernel
theorem dX7_menOf_0 : decode cX7_menOf 0 = .ok (.iconst 0, 1) := by decide +kernel
theorem dX7_menOf_1 : decode cX7_menOf 1 = .ok (.istore_n 2, 1) := by decide +kernel
theorem dX7_menOf_2 : decode cX7_menOf 2 = .ok (.iconst 0, 1) := by decide +kernel
theorem dX7_menOf_3 : decode cX7_menOf 3 = .ok (.istore_n 3, 1) := by decide +kernel
theorem dX7_menOf_4 : decode cX7_menOf 4 = .ok (.iload_n 3, 1) := by decide +kernel
theorem dX7_menOf_5 : decode cX7_menOf 5 = .ok (.aload_n 0, 1) := by decide +kernel
theorem dX7_menOf_6 : decode cX7_menOf 6 = .ok (.getfield 18, 3) := by decide +kernel
theorem dX7_menOf_9 : decode cX7_menOf 9 = .ok (.getfield 43, 3) := by decide +kernel
theorem dX7_menOf_12 : decode cX7_menOf 12 = .ok (.if_icmp .ge 21, 3) := by decide +kernel
theorem dX7_menOf_15 : decode cX7_menOf 15 = .ok (.aload_n 0, 1) := by decide +kernel
theorem dX7_menOf_16 : decode cX7_menOf 16 = .ok (.iload_n 3, 1) := by decide +kernel
theorem dX7_menOf_17 : decode cX7_menOf 17 = .ok (.iload_n 1, 1) := by decide +kernel
theorem dX7_menOf_18 : decode cX7_menOf 18 = .ok (.invokevirtual 46, 3) := by decide +kernel
theorem dX7_menOf_21 : decode cX7_menOf 21 = .ok (.ifCond .eq 6, 3) := by decide +kernel
theorem dX7_menOf_24 : decode cX7_menOf 24 = .ok (.iinc 2 1, 3) := by decide +kernel
theorem dX7_menOf_27 : decode cX7_menOf 27 = .ok (.iinc 3 1, 3) := by decide +kernel
theorem dX7_menOf_30 : decode cX7_menOf 30 = .ok (.goto (-26), 3) := by decide +kernel
theorem dX7_menOf_33 : decode cX7_menOf 33 = .ok (.iload_n 2, 1) := by decide +kernel
theorem dX7_menOf_34 : decode cX7_menOf 34 = .ok (.ireturn, 1) := by decide +kernel
theorem dX7_isOver_0 : decode cX7_isOver 0 = .ok (.aload_n 0, 1) := by decide +kernel
theorem dX7_isOver_1 : decode cX7_isOver 1 = .ok (.iconst 0, 1) := by decide +kernel
theorem dX7_isOver_2 : decode cX7_isOver 2 = .ok (.invokevirtual 50, 3) := by decide +kernel
theorem dX7_isOver_5 : decode cX7_isOver 5 = .ok (.ifCond .eq 11, 3) := by decide +kernel
theorem dX7_isOver_8 : decode cX7_isOver 8 = .ok (.aload_n 0, 1) := by decide +kernel
theorem dX7_isOver_9 : decode cX7_isOver 9 = .ok (.iconst 1, 1) := by decide +kernel
theorem dX7_isOver_10 : decode cX7_isOver 10 = .ok (.invokevirtual 50, 3) := by decide +kernel
theorem dX7_isOver_13 : decode cX7_isOver 13 = .ok (.ifCond .ne 7, 3) := by decide +kernel
theorem dX7_isOver_16 : decode cX7_isOver 16 = .ok (.iconst 1, 1) := by decide +kernel
theorem dX7_isOver_17 : decode cX7_isOver 17 = .ok (.goto 4, 3) := by decide +kernel
theorem dX7_isOver_20 : decode cX7_isOver 20 = .ok (.iconst 0, 1) := by decide +kernel
theorem dX7_isOver_21 : decode cX7_isOver 21 = .ok (.ireturn, 1) := by decide +kernel
theorem dX7_nextMan_0 : decode cX7_nextMan 0 = .ok (.iconst (-1), 1) := by decide +kernel
theorem dX7_nextMan_1 : decode cX7_nextMan 1 = .ok (.istore_n 2, 1) := by decide +kernel
theorem dX7_nextMan_2 : decode cX7_nextMan 2 = .ok (.aload_n 0, 1) := by decide +kernel
theorem dX7_nextMan_3 : decode cX7_nextMan 3 = .ok (.getfield 18, 3) := by decide +kernel
theorem dX7_nextMan_6 : decode cX7_nextMan 6 = .ok (.getfield 43, 3) := by decide +kernel
theorem dX7_nextMan_9 : decode cX7_nextMan 9 = .ok (.iconst 1, 1) := by decide +kernel
theorem dX7_nextMan_10 : decode cX7_nextMan 10 = .ok (.isub, 1) := by decide +kernel
theorem dX7_nextMan_11 : decode cX7_nextMan 11 = .ok (.istore_n 3, 1) := by decide +kernel
theorem dX7_nextMan_12 : decode cX7_nextMan 12 = .ok (.iload_n 3, 1) := by decide +kernel
theorem dX7_nextMan_13 : decode cX7_nextMan 13 = .ok (.ifCond .lt 20, 3) := by decide +kernel
theorem dX7_nextMan_16 : decode cX7_nextMan 16 = .ok (.aload_n 0, 1) := by decide +kernel
theorem dX7_nextMan_17 : decode cX7_nextMan 17 = .ok (.iload_n 3, 1) := by decide +kernel
theorem dX7_nextMan_18 : decode cX7_nextMan 18 = .ok (.iload_n 1, 1) := by decide +kernel
theorem dX7_nextMan_19 : decode cX7_nextMan 19 = .ok (.invokevirtual 46, 3) := by decide +kernel
theorem dX7_nextMan_22 : decode cX7_nextMan 22 = .ok (.ifCond .eq 5, 3) := by decide +kernel
theorem dX7_nextMan_25 : decode cX7_nextMan 25 = .ok (.iload_n 3, 1) := by decide +kernel
theorem dX7_nextMan_26 : decode cX7_nextMan 26 = .ok (.istore_n 2, 1) := by decide +kernel
theorem dX7_nextMan_27 : decode cX7_nextMan 27 = .ok (.iinc 3 (-1), 3) := by decide +kernel
theorem dX7_nextMan_30 : decode cX7_nextMan 30 = .ok (.goto (-18), 3) := by decide +kernel
theorem dX7_nextMan_33 : decode cX7_nextMan 33 = .ok (.aload_n 0, 1) := by decide +kernel
theorem dX7_nextMan_34 : decode cX7_nextMan 34 = .ok (.getfield 15, 3) := by decide +kernel
theorem dX7_nextMan_37 : decode cX7_nextMan 37 = .ok (.iload_n 1, 1) := by decide +kernel
theorem dX7_nextMan_38 : decode cX7_nextMan 38 = .ok (.iaload, 1) := by decide +kernel
theorem dX7_nextMan_39 : decode cX7_nextMan 39 = .ok (.iconst 1, 1) := by decide +kernel
theorem dX7_nextMan_40 : decode cX7_nextMan 40 = .ok (.iadd, 1) := by decide +kernel
theorem dX7_nextMan_41 : decode cX7_nextMan 41 = .ok (.istore_n 3, 1) := by decide +kernel
theorem dX7_nextMan_42 : decode cX7_nextMan 42 = .ok (.iload_n 3, 1) := by decide +kernel
theorem dX7_nextMan_43 : decode cX7_nextMan 43 = .ok (.aload_n 0, 1) := by decide +kernel
theorem dX7_nextMan_44 : decode cX7_nextMan 44 = .ok (.getfield 18, 3) := by decide +kernel
theorem dX7_nextMan_47 : decode cX7_nextMan 47 = .ok (.getfield 43, 3) := by decide +kernel
theorem dX7_nextMan_50 : decode cX7_nextMan 50 = .ok (.if_icmp .ge 20, 3) := by decide +kernel
theorem dX7_nextMan_53 : decode cX7_nextMan 53 = .ok (.aload_n 0, 1) := by decide +kernel
theorem dX7_nextMan_54 : decode cX7_nextMan 54 = .ok (.iload_n 3, 1) := by decide +kernel
theorem dX7_nextMan_55 : decode cX7_nextMan 55 = .ok (.iload_n 1, 1) := by decide +kernel
theorem dX7_nextMan_56 : decode cX7_nextMan 56 = .ok (.invokevirtual 46, 3) := by decide +kernel
theorem dX7_nextMan_59 : decode cX7_nextMan 59 = .ok (.ifCond .eq 5, 3) := by decide +kernel
theorem dX7_nextMan_62 : decode cX7_nextMan 62 = .ok (.iload_n 3, 1) := by decide +kernel
theorem dX7_nextMan_63 : decode cX7_nextMan 63 = .ok (.ireturn, 1) := by decide +kernel
theorem dX7_nextMan_64 : decode cX7_nextMan 64 = .ok (.iinc 3 1, 3) := by decide +kernel
theorem dX7_nextMan_67 : decode cX7_nextMan 67 = .ok (.goto (-25), 3) := by decide +kernel
theorem dX7_nextMan_70 : decode cX7_nextMan 70 = .ok (.iload_n 2, 1) := by decide +kernel
theorem dX7_nextMan_71 : decode cX7_nextMan 71 = .ok (.ireturn, 1) := by decide +kernel
theorem dX7_make_0 : decode cX7_make 0 = .ok (.aload_n 0, 1) := by decide +kernel
theorem dX7_make_1 : decode cX7_make 1 = .ok (.iload_n 1, 1) := by decide +kernel
theorem dX7_make_2 : decode cX7_make 2 = .ok (.iconst (-1), 1) := by decide +kernel
theorem dX7_make_3 : decode cX7_make 3 = .ok (.if_icmp .ne 10, 3) := by decide +kernel
theorem dX7_make_6 : decode cX7_make 6 = .ok (.aload_n 0, 1) := by decide +kernel
theorem dX7_make_7 : decode cX7_make 7 = .ok (.getfield 22, 3) := by decide +kernel
theorem dX7_make_10 : decode cX7_make 10 = .ok (.goto 9, 3) := by decide +kernel
theorem dX7_make_13 : decode cX7_make 13 = .ok (.iconst 1, 1) := by decide +kernel
theorem dX7_make_14 : decode cX7_make 14 = .ok (.aload_n 0, 1) := by decide +kernel
theorem dX7_make_15 : decode cX7_make 15 = .ok (.getfield 22, 3) := by decide +kernel
theorem dX7_make_18 : decode cX7_make 18 = .ok (.isub, 1) := by decide +kernel
theorem dX7_make_19 : decode cX7_make 19 = .ok (.invokevirtual 54, 3) := by decide +kernel
theorem dX7_make_22 : decode cX7_make 22 = .ok (.istore_n 2, 1) := by decide +kernel
theorem dX7_make_23 : decode cX7_make 23 = .ok (.iload_n 2, 1) := by decide +kernel
theorem dX7_make_24 : decode cX7_make 24 = .ok (.iconst (-1), 1) := by decide +kernel
theorem dX7_make_25 : decode cX7_make 25 = .ok (.if_icmp .eq 24, 3) := by decide +kernel
theorem dX7_make_28 : decode cX7_make 28 = .ok (.iload_n 1, 1) := by decide +kernel
theorem dX7_make_29 : decode cX7_make 29 = .ok (.iconst (-1), 1) := by decide +kernel
theorem dX7_make_30 : decode cX7_make 30 = .ok (.if_icmp .ne 13, 3) := by decide +kernel
theorem dX7_make_33 : decode cX7_make 33 = .ok (.aload_n 0, 1) := by decide +kernel
theorem dX7_make_34 : decode cX7_make 34 = .ok (.getfield 9, 3) := by decide +kernel
theorem dX7_make_37 : decode cX7_make 37 = .ok (.iload_n 2, 1) := by decide +kernel
theorem dX7_make_38 : decode cX7_make 38 = .ok (.iconst (-1), 1) := by decide +kernel
theorem dX7_make_39 : decode cX7_make 39 = .ok (.iastore, 1) := by decide +kernel
theorem dX7_make_40 : decode cX7_make 40 = .ok (.goto 9, 3) := by decide +kernel
theorem dX7_make_43 : decode cX7_make 43 = .ok (.aload_n 0, 1) := by decide +kernel
theorem dX7_make_44 : decode cX7_make 44 = .ok (.iload_n 2, 1) := by decide +kernel
theorem dX7_make_45 : decode cX7_make 45 = .ok (.iload_n 1, 1) := by decide +kernel
theorem dX7_make_46 : decode cX7_make 46 = .ok (.invokevirtual 57, 3) := by decide +kernel
theorem dX7_make_49 : decode cX7_make 49 = .ok (.aload_n 0, 1) := by decide +kernel
theorem dX7_make_50 : decode cX7_make 50 = .ok (.iconst 1, 1) := by decide +kernel
theorem dX7_make_51 : decode cX7_make 51 = .ok (.aload_n 0, 1) := by decide +kernel
theorem dX7_make_52 : decode cX7_make 52 = .ok (.getfield 22, 3) := by decide +kernel
theorem dX7_make_55 : decode cX7_make 55 = .ok (.isub, 1) := by decide +kernel
theorem dX7_make_56 : decode cX7_make 56 = .ok (.putfield 22, 3) := by decide +kernel
theorem dX7_make_59 : decode cX7_make 59 = .ok (.return_, 1) := by decide +kernel
theorem dX7_go_0 : decode cX7_go 0 = .ok (.iconst 0, 1) := by decide +kernel
theorem dX7_go_1 : decode cX7_go 1 = .ok (.istore_n 3, 1) := by decide +kernel
theorem dX7_go_2 : decode cX7_go 2 = .ok (.iload_n 3, 1) := by decide +kernel
theorem dX7_go_3 : decode cX7_go 3 = .ok (.aload_n 0, 1) := by decide +kernel
theorem dX7_go_4 : decode cX7_go 4 = .ok (.getfield 18, 3) := by decide +kernel
theorem dX7_go_7 : decode cX7_go 7 = .ok (.getfield 43, 3) := by decide +kernel
theorem dX7_go_10 : decode cX7_go 10 = .ok (.if_icmp .ge 43, 3) := by decide +kernel
theorem dX7_go_13 : decode cX7_go 13 = .ok (.iload_n 3, 1) := by decide +kernel
theorem dX7_go_14 : decode cX7_go 14 = .ok (.iload_n 1, 1) := by decide +kernel
theorem dX7_go_15 : decode cX7_go 15 = .ok (.if_icmp .eq 32, 3) := by decide +kernel
theorem dX7_go_18 : decode cX7_go 18 = .ok (.aload_n 0, 1) := by decide +kernel
theorem dX7_go_19 : decode cX7_go 19 = .ok (.getfield 9, 3) := by decide +kernel
theorem dX7_go_22 : decode cX7_go 22 = .ok (.iload_n 3, 1) := by decide +kernel
theorem dX7_go_23 : decode cX7_go 23 = .ok (.iaload, 1) := by decide +kernel
theorem dX7_go_24 : decode cX7_go 24 = .ok (.iload_n 2, 1) := by decide +kernel
theorem dX7_go_25 : decode cX7_go 25 = .ok (.if_icmp .ne 22, 3) := by decide +kernel
theorem dX7_go_28 : decode cX7_go 28 = .ok (.aload_n 0, 1) := by decide +kernel
theorem dX7_go_29 : decode cX7_go 29 = .ok (.getfield 9, 3) := by decide +kernel
theorem dX7_go_32 : decode cX7_go 32 = .ok (.iload_n 3, 1) := by decide +kernel
theorem dX7_go_33 : decode cX7_go 33 = .ok (.iconst (-1), 1) := by decide +kernel
theorem dX7_go_34 : decode cX7_go 34 = .ok (.iastore, 1) := by decide +kernel
theorem dX7_go_35 : decode cX7_go 35 = .ok (.aload_n 0, 1) := by decide +kernel
theorem dX7_go_36 : decode cX7_go 36 = .ok (.dup, 1) := by decide +kernel
theorem dX7_go_37 : decode cX7_go 37 = .ok (.getfield 26, 3) := by decide +kernel
theorem dX7_go_40 : decode cX7_go 40 = .ok (.iconst 1, 1) := by decide +kernel
theorem dX7_go_41 : decode cX7_go 41 = .ok (.iload_n 1, 1) := by decide +kernel
theorem dX7_go_42 : decode cX7_go 42 = .ok (.ishl, 1) := by decide +kernel
theorem dX7_go_43 : decode cX7_go 43 = .ok (.ior, 1) := by decide +kernel
theorem dX7_go_44 : decode cX7_go 44 = .ok (.putfield 26, 3) := by decide +kernel
theorem dX7_go_47 : decode cX7_go 47 = .ok (.iinc 3 1, 3) := by decide +kernel
theorem dX7_go_50 : decode cX7_go 50 = .ok (.goto (-48), 3) := by decide +kernel
theorem dX7_go_53 : decode cX7_go 53 = .ok (.aload_n 0, 1) := by decide +kernel
theorem dX7_go_54 : decode cX7_go 54 = .ok (.getfield 9, 3) := by decide +kernel
theorem dX7_go_57 : decode cX7_go 57 = .ok (.iload_n 1, 1) := by decide +kernel
theorem dX7_go_58 : decode cX7_go 58 = .ok (.aload_n 0, 1) := by decide +kernel
theorem dX7_go_59 : decode cX7_go 59 = .ok (.getfield 18, 3) := by decide +kernel
theorem dX7_go_62 : decode cX7_go 62 = .ok (.getfield 61, 3) := by decide +kernel
theorem dX7_go_65 : decode cX7_go 65 = .ok (.iload_n 2, 1) := by decide +kernel
theorem dX7_go_66 : decode cX7_go 66 = .ok (.invokestatic 65, 3) := by decide +kernel
theorem dX7_go_69 : decode cX7_go 69 = .ok (.ifCond .eq 7, 3) := by decide +kernel
theorem dX7_go_72 : decode cX7_go 72 = .ok (.iconst (-1), 1) := by decide +kernel
theorem dX7_go_73 : decode cX7_go 73 = .ok (.goto 4, 3) := by decide +kernel
theorem dX7_go_76 : decode cX7_go 76 = .ok (.iload_n 2, 1) := by decide +kernel
theorem dX7_go_77 : decode cX7_go 77 = .ok (.iastore, 1) := by decide +kernel
theorem dX7_go_78 : decode cX7_go 78 = .ok (.aload_n 0, 1) := by decide +kernel
theorem dX7_go_79 : decode cX7_go 79 = .ok (.getfield 15, 3) := by decide +kernel
theorem dX7_go_82 : decode cX7_go 82 = .ok (.aload_n 0, 1) := by decide +kernel
theorem dX7_go_83 : decode cX7_go 83 = .ok (.getfield 18, 3) := by decide +kernel
theorem dX7_go_86 : decode cX7_go 86 = .ok (.getfield 40, 3) := by decide +kernel
theorem dX7_go_89 : decode cX7_go 89 = .ok (.iload_n 1, 1) := by decide +kernel
theorem dX7_go_90 : decode cX7_go 90 = .ok (.iaload, 1) := by decide +kernel
theorem dX7_go_91 : decode cX7_go 91 = .ok (.iload_n 1, 1) := by decide +kernel
theorem dX7_go_92 : decode cX7_go 92 = .ok (.iastore, 1) := by decide +kernel
theorem dX7_go_93 : decode cX7_go 93 = .ok (.return_, 1) := by decide +kernel
theorem dX7_braveOf_0 : decode cX7_braveOf 0 = .ok (.iconst 0, 1) := by decide +kernel
theorem dX7_braveOf_1 : decode cX7_braveOf 1 = .ok (.istore_n 2, 1) := by decide +kernel
theorem dX7_braveOf_2 : decode cX7_braveOf 2 = .ok (.iconst 0, 1) := by decide +kernel
theorem dX7_braveOf_3 : decode cX7_braveOf 3 = .ok (.istore_n 3, 1) := by decide +kernel
theorem dX7_braveOf_4 : decode cX7_braveOf 4 = .ok (.iload_n 3, 1) := by decide +kernel
theorem dX7_braveOf_5 : decode cX7_braveOf 5 = .ok (.aload_n 0, 1) := by decide +kernel
theorem dX7_braveOf_6 : decode cX7_braveOf 6 = .ok (.getfield 18, 3) := by decide +kernel
theorem dX7_braveOf_9 : decode cX7_braveOf 9 = .ok (.getfield 43, 3) := by decide +kernel
theorem dX7_braveOf_12 : decode cX7_braveOf 12 = .ok (.if_icmp .ge 37, 3) := by decide +kernel
theorem dX7_braveOf_15 : decode cX7_braveOf 15 = .ok (.aload_n 0, 1) := by decide +kernel
theorem dX7_braveOf_16 : decode cX7_braveOf 16 = .ok (.getfield 18, 3) := by decide +kernel
theorem dX7_braveOf_19 : decode cX7_braveOf 19 = .ok (.getfield 40, 3) := by decide +kernel
theorem dX7_braveOf_22 : decode cX7_braveOf 22 = .ok (.iload_n 3, 1) := by decide +kernel
theorem dX7_braveOf_23 : decode cX7_braveOf 23 = .ok (.iaload, 1) := by decide +kernel
theorem dX7_braveOf_24 : decode cX7_braveOf 24 = .ok (.iload_n 1, 1) := by decide +kernel
theorem dX7_braveOf_25 : decode cX7_braveOf 25 = .ok (.if_icmp .ne 18, 3) := by decide +kernel
theorem dX7_braveOf_28 : decode cX7_braveOf 28 = .ok (.aload_n 0, 1) := by decide +kernel
theorem dX7_braveOf_29 : decode cX7_braveOf 29 = .ok (.getfield 26, 3) := by decide +kernel
theorem dX7_braveOf_32 : decode cX7_braveOf 32 = .ok (.i2l, 1) := by decide +kernel
theorem dX7_braveOf_33 : decode cX7_braveOf 33 = .ok (.iload_n 3, 1) := by decide +kernel
theorem dX7_braveOf_34 : decode cX7_braveOf 34 = .ok (.invokestatic 65, 3) := by decide +kernel
theorem dX7_braveOf_37 : decode cX7_braveOf 37 = .ok (.ifCond .eq 6, 3) := by decide +kernel
theorem dX7_braveOf_40 : decode cX7_braveOf 40 = .ok (.iinc 2 1, 3) := by decide +kernel
theorem dX7_braveOf_43 : decode cX7_braveOf 43 = .ok (.iinc 3 1, 3) := by decide +kernel
theorem dX7_braveOf_46 : decode cX7_braveOf 46 = .ok (.goto (-42), 3) := by decide +kernel
theorem dX7_braveOf_49 : decode cX7_braveOf 49 = .ok (.iload_n 2, 1) := by decide +kernel
theorem dX7_braveOf_50 : decode cX7_braveOf 50 = .ok (.ireturn, 1) := by decide +kernel
theorem dX7_tell_0 : decode cX7_tell 0 = .ok (.iload_n 1, 1) := by decide +kernel
theorem dX7_tell_1 : decode cX7_tell 1 = .ok (.bipush 10, 2) := by decide +kernel
theorem dX7_tell_3 : decode cX7_tell 3 = .ok (.if_icmp .lt 27, 3) := by decide +kernel
theorem dX7_tell_6 : decode cX7_tell 6 = .ok (.iload_n 1, 1) := by decide +kernel
theorem dX7_tell_7 : decode cX7_tell 7 = .ok (.bipush 10, 2) := by decide +kernel
theorem dX7_tell_9 : decode cX7_tell 9 = .ok (.aload_n 0, 1) := by decide +kernel
theorem dX7_tell_10 : decode cX7_tell 10 = .ok (.getfield 18, 3) := by decide +kernel
theorem dX7_tell_13 : decode cX7_tell 13 = .ok (.getfield 43, 3) := by decide +kernel
theorem dX7_tell_16 : decode cX7_tell 16 = .ok (.iadd, 1) := by decide +kernel
theorem dX7_tell_17 : decode cX7_tell 17 = .ok (.if_icmp .ge 13, 3) := by decide +kernel
theorem dX7_tell_20 : decode cX7_tell 20 = .ok (.aload_n 0, 1) := by decide +kernel
theorem dX7_tell_21 : decode cX7_tell 21 = .ok (.getfield 9, 3) := by decide +kernel
theorem dX7_tell_24 : decode cX7_tell 24 = .ok (.iload_n 1, 1) := by decide +kernel
theorem dX7_tell_25 : decode cX7_tell 25 = .ok (.bipush 10, 2) := by decide +kernel
theorem dX7_tell_27 : decode cX7_tell 27 = .ok (.isub, 1) := by decide +kernel
theorem dX7_tell_28 : decode cX7_tell 28 = .ok (.iaload, 1) := by decide +kernel
theorem dX7_tell_29 : decode cX7_tell 29 = .ok (.ireturn, 1) := by decide +kernel
theorem dX7_tell_30 : decode cX7_tell 30 = .ok (.iload_n 1, 1) := by decide +kernel
theorem dX7_tell_31 : decode cX7_tell 31 = .ok (.lookupswitch 92 #[(0, 57), (1, 62), (2, 75), (3, 75), (20, 83), (21, 83)], 57) := by decide +kernel
theorem dX7_tell_88 : decode cX7_tell 88 = .ok (.aload_n 0, 1) := by decide +kernel
theorem dX7_tell_89 : decode cX7_tell 89 = .ok (.getfield 22, 3) := by decide +kernel
theorem dX7_tell_92 : decode cX7_tell 92 = .ok (.ireturn, 1) := by decide +kernel
theorem dX7_tell_93 : decode cX7_tell 93 = .ok (.aload_n 0, 1) := by decide +kernel
theorem dX7_tell_94 : decode cX7_tell 94 = .ok (.invokevirtual 69, 3) := by decide +kernel
theorem dX7_tell_97 : decode cX7_tell 97 = .ok (.ifCond .eq 7, 3) := by decide +kernel
theorem dX7_tell_100 : decode cX7_tell 100 = .ok (.iconst 1, 1) := by decide +kernel
theorem dX7_tell_101 : decode cX7_tell 101 = .ok (.goto 4, 3) := by decide +kernel
theorem dX7_tell_104 : decode cX7_tell 104 = .ok (.iconst 0, 1) := by decide +kernel
theorem dX7_tell_105 : decode cX7_tell 105 = .ok (.ireturn, 1) := by decide +kernel
theorem dX7_tell_106 : decode cX7_tell 106 = .ok (.aload_n 0, 1) := by decide +kernel
theorem dX7_tell_107 : decode cX7_tell 107 = .ok (.iload_n 1, 1) := by decide +kernel
theorem dX7_tell_108 : decode cX7_tell 108 = .ok (.iconst 2, 1) := by decide +kernel
theorem dX7_tell_109 : decode cX7_tell 109 = .ok (.isub, 1) := by decide +kernel
theorem dX7_tell_110 : decode cX7_tell 110 = .ok (.invokevirtual 50, 3) := by decide +kernel
theorem dX7_tell_113 : decode cX7_tell 113 = .ok (.ireturn, 1) := by decide +kernel
theorem dX7_tell_114 : decode cX7_tell 114 = .ok (.aload_n 0, 1) := by decide +kernel
theorem dX7_tell_115 : decode cX7_tell 115 = .ok (.iload_n 1, 1) := by decide +kernel
theorem dX7_tell_116 : decode cX7_tell 116 = .ok (.bipush 20, 2) := by decide +kernel
theorem dX7_tell_118 : decode cX7_tell 118 = .ok (.isub, 1) := by decide +kernel
theorem dX7_tell_119 : decode cX7_tell 119 = .ok (.invokevirtual 54, 3) := by decide +kernel
theorem dX7_tell_122 : decode cX7_tell 122 = .ok (.ireturn, 1) := by decide +kernel
theorem dX7_tell_123 : decode cX7_tell 123 = .ok (.bipush (-2), 2) := by decide +kernel
theorem dX7_tell_125 : decode cX7_tell 125 = .ok (.ireturn, 1) := by decide +kernel
theorem dX8_init_0 : decode cX8_init 0 = .ok (.aload_n 0, 1) := by decide +kernel
theorem dX8_init_1 : decode cX8_init 1 = .ok (.invokespecial 3, 3) := by decide +kernel
theorem dX8_init_4 : decode cX8_init 4 = .ok (.aload_n 0, 1) := by decide +kernel
theorem dX8_init_5 : decode cX8_init 5 = .ok (.iconst (-1), 1) := by decide +kernel
theorem dX8_init_6 : decode cX8_init 6 = .ok (.putfield 9, 3) := by decide +kernel
theorem dX8_init_9 : decode cX8_init 9 = .ok (.aload_n 0, 1) := by decide +kernel
theorem dX8_init_10 : decode cX8_init 10 = .ok (.sipush 600, 3) := by decide +kernel
theorem dX8_init_13 : decode cX8_init 13 = .ok (.newarray .int, 2) := by decide +kernel
theorem dX8_init_15 : decode cX8_init 15 = .ok (.putfield 15, 3) := by decide +kernel
theorem dX8_init_18 : decode cX8_init 18 = .ok (.aload_n 0, 1) := by decide +kernel
theorem dX8_init_19 : decode cX8_init 19 = .ok (.iconst 3, 1) := by decide +kernel
theorem dX8_init_20 : decode cX8_init 20 = .ok (.newarray .int, 2) := by decide +kernel
theorem dX8_init_22 : decode cX8_init 22 = .ok (.putfield 19, 3) := by decide +kernel
theorem dX8_init_25 : decode cX8_init 25 = .ok (.aload_n 0, 1) := by decide +kernel
theorem dX8_init_26 : decode cX8_init 26 = .ok (.iconst 2, 1) := by decide +kernel
theorem dX8_init_27 : decode cX8_init 27 = .ok (.anewarray 22, 3) := by decide +kernel
theorem dX8_init_30 : decode cX8_init 30 = .ok (.putfield 24, 3) := by decide +kernel
theorem dX8_init_33 : decode cX8_init 33 = .ok (.aload_n 0, 1) := by decide +kernel
theorem dX8_init_34 : decode cX8_init 34 = .ok (.iconst 3, 1) := by decide +kernel
theorem dX8_init_35 : decode cX8_init 35 = .ok (.newarray .long, 2) := by decide +kernel
theorem dX8_init_37 : decode cX8_init 37 = .ok (.putfield 28, 3) := by decide +kernel
theorem dX8_init_40 : decode cX8_init 40 = .ok (.aload_n 0, 1) := by decide +kernel
theorem dX8_init_41 : decode cX8_init 41 = .ok (.iconst 2, 1) := by decide +kernel
theorem dX8_init_42 : decode cX8_init 42 = .ok (.anewarray 32, 3) := by decide +kernel
theorem dX8_init_45 : decode cX8_init 45 = .ok (.putfield 34, 3) := by decide +kernel
theorem dX8_init_48 : decode cX8_init 48 = .ok (.iconst 0, 1) := by decide +kernel
theorem dX8_init_49 : decode cX8_init 49 = .ok (.istore_n 1, 1) := by decide +kernel
theorem dX8_init_50 : decode cX8_init 50 = .ok (.iload_n 1, 1) := by decide +kernel
theorem dX8_init_51 : decode cX8_init 51 = .ok (.iconst 2, 1) := by decide +kernel
theorem dX8_init_52 : decode cX8_init 52 = .ok (.if_icmp .ge 22, 3) := by decide +kernel
theorem dX8_init_55 : decode cX8_init 55 = .ok (.aload_n 0, 1) := by decide +kernel
theorem dX8_init_56 : decode cX8_init 56 = .ok (.getfield 24, 3) := by decide +kernel
theorem dX8_init_59 : decode cX8_init 59 = .ok (.iload_n 1, 1) := by decide +kernel
theorem dX8_init_60 : decode cX8_init 60 = .ok (.new 22, 3) := by decide +kernel
theorem dX8_init_63 : decode cX8_init 63 = .ok (.dup, 1) := by decide +kernel
theorem dX8_init_64 : decode cX8_init 64 = .ok (.invokespecial 38, 3) := by decide +kernel
theorem dX8_init_67 : decode cX8_init 67 = .ok (.aastore, 1) := by decide +kernel
theorem dX8_init_68 : decode cX8_init 68 = .ok (.iinc 1 1, 3) := by decide +kernel
theorem dX8_init_71 : decode cX8_init 71 = .ok (.goto (-21), 3) := by decide +kernel
theorem dX8_init_74 : decode cX8_init 74 = .ok (.iconst 0, 1) := by decide +kernel
theorem dX8_init_75 : decode cX8_init 75 = .ok (.istore_n 1, 1) := by decide +kernel
theorem dX8_init_76 : decode cX8_init 76 = .ok (.iload_n 1, 1) := by decide +kernel
theorem dX8_init_77 : decode cX8_init 77 = .ok (.iconst 2, 1) := by decide +kernel
theorem dX8_init_78 : decode cX8_init 78 = .ok (.if_icmp .ge 22, 3) := by decide +kernel
theorem dX8_init_81 : decode cX8_init 81 = .ok (.aload_n 0, 1) := by decide +kernel
theorem dX8_init_82 : decode cX8_init 82 = .ok (.getfield 34, 3) := by decide +kernel
theorem dX8_init_85 : decode cX8_init 85 = .ok (.iload_n 1, 1) := by decide +kernel
theorem dX8_init_86 : decode cX8_init 86 = .ok (.new 32, 3) := by decide +kernel
theorem dX8_init_89 : decode cX8_init 89 = .ok (.dup, 1) := by decide +kernel
theorem dX8_init_90 : decode cX8_init 90 = .ok (.invokespecial 39, 3) := by decide +kernel
theorem dX8_init_93 : decode cX8_init 93 = .ok (.aastore, 1) := by decide +kernel
theorem dX8_init_94 : decode cX8_init 94 = .ok (.iinc 1 1, 3) := by decide +kernel
theorem dX8_init_97 : decode cX8_init 97 = .ok (.goto (-21), 3) := by decide +kernel
theorem dX8_init_100 : decode cX8_init 100 = .ok (.return_, 1) := by decide +kernel
theorem dX8_copy_0 : decode cX8_copy 0 = .ok (.aload_n 0, 1) := by decide +kernel
theorem dX8_copy_1 : decode cX8_copy 1 = .ok (.aload_n 1, 1) := by decide +kernel
theorem dX8_copy_2 : decode cX8_copy 2 = .ok (.getfield 40, 3) := by decide +kernel
theorem dX8_copy_5 : decode cX8_copy 5 = .ok (.putfield 40, 3) := by decide +kernel
theorem dX8_copy_8 : decode cX8_copy 8 = .ok (.aload_n 0, 1) := by decide +kernel
theorem dX8_copy_9 : decode cX8_copy 9 = .ok (.aload_n 1, 1) := by decide +kernel
theorem dX8_copy_10 : decode cX8_copy 10 = .ok (.getfield 43, 3) := by decide +kernel
theorem dX8_copy_13 : decode cX8_copy 13 = .ok (.putfield 43, 3) := by decide +kernel
theorem dX8_copy_16 : decode cX8_copy 16 = .ok (.aload_n 0, 1) := by decide +kernel
theorem dX8_copy_17 : decode cX8_copy 17 = .ok (.aload_n 1, 1) := by decide +kernel
theorem dX8_copy_18 : decode cX8_copy 18 = .ok (.getfield 9, 3) := by decide +kernel
theorem dX8_copy_21 : decode cX8_copy 21 = .ok (.putfield 9, 3) := by decide +kernel
theorem dX8_copy_24 : decode cX8_copy 24 = .ok (.aload_n 1, 1) := by decide +kernel
theorem dX8_copy_25 : decode cX8_copy 25 = .ok (.getfield 15, 3) := by decide +kernel
theorem dX8_copy_28 : decode cX8_copy 28 = .ok (.iconst 0, 1) := by decide +kernel
theorem dX8_copy_29 : decode cX8_copy 29 = .ok (.aload_n 0, 1) := by decide +kernel
theorem dX8_copy_30 : decode cX8_copy 30 = .ok (.getfield 15, 3) := by decide +kernel
theorem dX8_copy_33 : decode cX8_copy 33 = .ok (.iconst 0, 1) := by decide +kernel
theorem dX8_copy_34 : decode cX8_copy 34 = .ok (.sipush 600, 3) := by decide +kernel
theorem dX8_copy_37 : decode cX8_copy 37 = .ok (.invokestatic 46, 3) := by decide +kernel
theorem dX8_copy_40 : decode cX8_copy 40 = .ok (.aload_n 1, 1) := by decide +kernel
theorem dX8_copy_41 : decode cX8_copy 41 = .ok (.getfield 19, 3) := by decide +kernel
theorem dX8_copy_44 : decode cX8_copy 44 = .ok (.iconst 0, 1) := by decide +kernel
theorem dX8_copy_45 : decode cX8_copy 45 = .ok (.aload_n 0, 1) := by decide +kernel
theorem dX8_copy_46 : decode cX8_copy 46 = .ok (.getfield 19, 3) := by decide +kernel
theorem dX8_copy_49 : decode cX8_copy 49 = .ok (.iconst 0, 1) := by decide +kernel
theorem dX8_copy_50 : decode cX8_copy 50 = .ok (.iconst 3, 1) := by decide +kernel
theorem dX8_copy_51 : decode cX8_copy 51 = .ok (.invokestatic 46, 3) := by decide +kernel
theorem dX8_copy_54 : decode cX8_copy 54 = .ok (.aload_n 1, 1) := by decide +kernel
theorem dX8_copy_55 : decode cX8_copy 55 = .ok (.getfield 28, 3) := by decide +kernel
theorem dX8_copy_58 : decode cX8_copy 58 = .ok (.iconst 0, 1) := by decide +kernel
theorem dX8_copy_59 : decode cX8_copy 59 = .ok (.aload_n 0, 1) := by decide +kernel
theorem dX8_copy_60 : decode cX8_copy 60 = .ok (.getfield 28, 3) := by decide +kernel
theorem dX8_copy_63 : decode cX8_copy 63 = .ok (.iconst 0, 1) := by decide +kernel
theorem dX8_copy_64 : decode cX8_copy 64 = .ok (.iconst 3, 1) := by decide +kernel
theorem dX8_copy_65 : decode cX8_copy 65 = .ok (.invokestatic 46, 3) := by decide +kernel
theorem dX8_copy_68 : decode cX8_copy 68 = .ok (.iconst 0, 1) := by decide +kernel
theorem dX8_copy_69 : decode cX8_copy 69 = .ok (.istore_n 2, 1) := by decide +kernel
theorem dX8_copy_70 : decode cX8_copy 70 = .ok (.iload_n 2, 1) := by decide +kernel
theorem dX8_copy_71 : decode cX8_copy 71 = .ok (.iconst 2, 1) := by decide +kernel
theorem dX8_copy_72 : decode cX8_copy 72 = .ok (.if_icmp .ge 24, 3) := by decide +kernel
theorem dX8_copy_75 : decode cX8_copy 75 = .ok (.aload_n 0, 1) := by decide +kernel
theorem dX8_copy_76 : decode cX8_copy 76 = .ok (.getfield 24, 3) := by decide +kernel
theorem dX8_copy_79 : decode cX8_copy 79 = .ok (.iload_n 2, 1) := by decide +kernel
theorem dX8_copy_80 : decode cX8_copy 80 = .ok (.aaload, 1) := by decide +kernel
theorem dX8_copy_81 : decode cX8_copy 81 = .ok (.aload_n 1, 1) := by decide +kernel
theorem dX8_copy_82 : decode cX8_copy 82 = .ok (.getfield 24, 3) := by decide +kernel
theorem dX8_copy_85 : decode cX8_copy 85 = .ok (.iload_n 2, 1) := by decide +kernel
theorem dX8_copy_86 : decode cX8_copy 86 = .ok (.aaload, 1) := by decide +kernel
theorem dX8_copy_87 : decode cX8_copy 87 = .ok (.invokevirtual 52, 3) := by decide +kernel
theorem dX8_copy_90 : decode cX8_copy 90 = .ok (.iinc 2 1, 3) := by decide +kernel
theorem dX8_copy_93 : decode cX8_copy 93 = .ok (.goto (-23), 3) := by decide +kernel
theorem dX8_copy_96 : decode cX8_copy 96 = .ok (.iconst 0, 1) := by decide +kernel
theorem dX8_copy_97 : decode cX8_copy 97 = .ok (.istore_n 2, 1) := by decide +kernel
theorem dX8_copy_98 : decode cX8_copy 98 = .ok (.iload_n 2, 1) := by decide +kernel
theorem dX8_copy_99 : decode cX8_copy 99 = .ok (.iconst 2, 1) := by decide +kernel
theorem dX8_copy_100 : decode cX8_copy 100 = .ok (.if_icmp .ge 24, 3) := by decide +kernel
theorem dX8_copy_103 : decode cX8_copy 103 = .ok (.aload_n 0, 1) := by decide +kernel
theorem dX8_copy_104 : decode cX8_copy 104 = .ok (.getfield 34, 3) := by decide +kernel
theorem dX8_copy_107 : decode cX8_copy 107 = .ok (.iload_n 2, 1) := by decide +kernel
theorem dX8_copy_108 : decode cX8_copy 108 = .ok (.aaload, 1) := by decide +kernel
theorem dX8_copy_109 : decode cX8_copy 109 = .ok (.aload_n 1, 1) := by decide +kernel
theorem dX8_copy_110 : decode cX8_copy 110 = .ok (.getfield 34, 3) := by decide +kernel
theorem dX8_copy_113 : decode cX8_copy 113 = .ok (.iload_n 2, 1) := by decide +kernel
theorem dX8_copy_114 : decode cX8_copy 114 = .ok (.aaload, 1) := by decide +kernel
theorem dX8_copy_115 : decode cX8_copy 115 = .ok (.invokevirtual 56, 3) := by decide +kernel
theorem dX8_copy_118 : decode cX8_copy 118 = .ok (.iinc 2 1, 3) := by decide +kernel
theorem dX8_copy_121 : decode cX8_copy 121 = .ok (.goto (-23), 3) := by decide +kernel
theorem dX8_copy_124 : decode cX8_copy 124 = .ok (.return_, 1) := by decide +kernel
theorem dX8_put_0 : decode cX8_put 0 = .ok (.bipush 24, 2) := by decide +kernel
theorem dX8_put_2 : decode cX8_put 2 = .ok (.istore_n 2, 1) := by decide +kernel
theorem dX8_put_3 : decode cX8_put 3 = .ok (.iload_n 2, 1) := by decide +kernel
theorem dX8_put_4 : decode cX8_put 4 = .ok (.ifCond .lt 45, 3) := by decide +kernel
theorem dX8_put_7 : decode cX8_put 7 = .ok (.aload_n 0, 1) := by decide +kernel
theorem dX8_put_8 : decode cX8_put 8 = .ok (.getfield 40, 3) := by decide +kernel
theorem dX8_put_11 : decode cX8_put 11 = .ok (.sipush 600, 3) := by decide +kernel
theorem dX8_put_14 : decode cX8_put 14 = .ok (.if_icmp .ge 35, 3) := by decide +kernel
theorem dX8_put_17 : decode cX8_put 17 = .ok (.aload_n 0, 1) := by decide +kernel
theorem dX8_put_18 : decode cX8_put 18 = .ok (.getfield 15, 3) := by decide +kernel
theorem dX8_put_21 : decode cX8_put 21 = .ok (.aload_n 0, 1) := by decide +kernel
theorem dX8_put_22 : decode cX8_put 22 = .ok (.getfield 40, 3) := by decide +kernel
theorem dX8_put_25 : decode cX8_put 25 = .ok (.iload_n 1, 1) := by decide +kernel
theorem dX8_put_26 : decode cX8_put 26 = .ok (.iload_n 2, 1) := by decide +kernel
theorem dX8_put_27 : decode cX8_put 27 = .ok (.iushr, 1) := by decide +kernel
theorem dX8_put_28 : decode cX8_put 28 = .ok (.sipush 255, 3) := by decide +kernel
theorem dX8_put_31 : decode cX8_put 31 = .ok (.iand, 1) := by decide +kernel
theorem dX8_put_32 : decode cX8_put 32 = .ok (.iastore, 1) := by decide +kernel
theorem dX8_put_33 : decode cX8_put 33 = .ok (.aload_n 0, 1) := by decide +kernel
theorem dX8_put_34 : decode cX8_put 34 = .ok (.dup, 1) := by decide +kernel
theorem dX8_put_35 : decode cX8_put 35 = .ok (.getfield 40, 3) := by decide +kernel
theorem dX8_put_38 : decode cX8_put 38 = .ok (.iconst 1, 1) := by decide +kernel
theorem dX8_put_39 : decode cX8_put 39 = .ok (.iadd, 1) := by decide +kernel
theorem dX8_put_40 : decode cX8_put 40 = .ok (.putfield 40, 3) := by decide +kernel
theorem dX8_put_43 : decode cX8_put 43 = .ok (.iinc 2 (-8), 3) := by decide +kernel
theorem dX8_put_46 : decode cX8_put 46 = .ok (.goto (-43), 3) := by decide +kernel
theorem dX8_put_49 : decode cX8_put 49 = .ok (.return_, 1) := by decide +kernel
theorem dX8_boardAt_0 : decode cX8_boardAt 0 = .ok (.iload_n 1, 1) := by decide +kernel
theorem dX8_boardAt_1 : decode cX8_boardAt 1 = .ok (.ifCond .lt 22, 3) := by decide +kernel
theorem dX8_boardAt_4 : decode cX8_boardAt 4 = .ok (.iload_n 1, 1) := by decide +kernel
theorem dX8_boardAt_5 : decode cX8_boardAt 5 = .ok (.aload_n 0, 1) := by decide +kernel
theorem dX8_boardAt_6 : decode cX8_boardAt 6 = .ok (.getfield 19, 3) := by decide +kernel
theorem dX8_boardAt_9 : decode cX8_boardAt 9 = .ok (.iconst 0, 1) := by decide +kernel
theorem dX8_boardAt_10 : decode cX8_boardAt 10 = .ok (.iaload, 1) := by decide +kernel
theorem dX8_boardAt_11 : decode cX8_boardAt 11 = .ok (.if_icmp .ge 12, 3) := by decide +kernel
theorem dX8_boardAt_14 : decode cX8_boardAt 14 = .ok (.aload_n 0, 1) := by decide +kernel
theorem dX8_boardAt_15 : decode cX8_boardAt 15 = .ok (.getfield 24, 3) := by decide +kernel
theorem dX8_boardAt_18 : decode cX8_boardAt 18 = .ok (.iload_n 1, 1) := by decide +kernel
theorem dX8_boardAt_19 : decode cX8_boardAt 19 = .ok (.aaload, 1) := by decide +kernel
theorem dX8_boardAt_20 : decode cX8_boardAt 20 = .ok (.goto 4, 3) := by decide +kernel
theorem dX8_boardAt_23 : decode cX8_boardAt 23 = .ok (.aconst_null, 1) := by decide +kernel
theorem dX8_boardAt_24 : decode cX8_boardAt 24 = .ok (.areturn, 1) := by decide +kernel
theorem dX8_hasRule_0 : decode cX8_hasRule 0 = .ok (.iload_n 1, 1) := by decide +kernel
theorem dX8_hasRule_1 : decode cX8_hasRule 1 = .ok (.ifCond .lt 17, 3) := by decide +kernel
theorem dX8_hasRule_4 : decode cX8_hasRule 4 = .ok (.iload_n 1, 1) := by decide +kernel
theorem dX8_hasRule_5 : decode cX8_hasRule 5 = .ok (.aload_n 0, 1) := by decide +kernel
theorem dX8_hasRule_6 : decode cX8_hasRule 6 = .ok (.getfield 19, 3) := by decide +kernel
theorem dX8_hasRule_9 : decode cX8_hasRule 9 = .ok (.iconst 1, 1) := by decide +kernel
theorem dX8_hasRule_10 : decode cX8_hasRule 10 = .ok (.iaload, 1) := by decide +kernel
theorem dX8_hasRule_11 : decode cX8_hasRule 11 = .ok (.if_icmp .ge 7, 3) := by decide +kernel
theorem dX8_hasRule_14 : decode cX8_hasRule 14 = .ok (.iconst 1, 1) := by decide +kernel
theorem dX8_hasRule_15 : decode cX8_hasRule 15 = .ok (.goto 4, 3) := by decide +kernel
theorem dX8_hasRule_18 : decode cX8_hasRule 18 = .ok (.iconst 0, 1) := by decide +kernel
theorem dX8_hasRule_19 : decode cX8_hasRule 19 = .ok (.ireturn, 1) := by decide +kernel
theorem dX8_gameAt_0 : decode cX8_gameAt 0 = .ok (.iload_n 1, 1) := by decide +kernel
theorem dX8_gameAt_1 : decode cX8_gameAt 1 = .ok (.ifCond .lt 22, 3) := by decide +kernel
theorem dX8_gameAt_4 : decode cX8_gameAt 4 = .ok (.iload_n 1, 1) := by decide +kernel
theorem dX8_gameAt_5 : decode cX8_gameAt 5 = .ok (.aload_n 0, 1) := by decide +kernel
theorem dX8_gameAt_6 : decode cX8_gameAt 6 = .ok (.getfield 19, 3) := by decide +kernel
theorem dX8_gameAt_9 : decode cX8_gameAt 9 = .ok (.iconst 2, 1) := by decide +kernel
theorem dX8_gameAt_10 : decode cX8_gameAt 10 = .ok (.iaload, 1) := by decide +kernel
theorem dX8_gameAt_11 : decode cX8_gameAt 11 = .ok (.if_icmp .ge 12, 3) := by decide +kernel
theorem dX8_gameAt_14 : decode cX8_gameAt 14 = .ok (.aload_n 0, 1) := by decide +kernel
theorem dX8_gameAt_15 : decode cX8_gameAt 15 = .ok (.getfield 34, 3) := by decide +kernel
theorem dX8_gameAt_18 : decode cX8_gameAt 18 = .ok (.iload_n 1, 1) := by decide +kernel
theorem dX8_gameAt_19 : decode cX8_gameAt 19 = .ok (.aaload, 1) := by decide +kernel
theorem dX8_gameAt_20 : decode cX8_gameAt 20 = .ok (.goto 4, 3) := by decide +kernel
theorem dX8_gameAt_23 : decode cX8_gameAt 23 = .ok (.aconst_null, 1) := by decide +kernel
theorem dX8_gameAt_24 : decode cX8_gameAt 24 = .ok (.areturn, 1) := by decide +kernel
theorem dX8_hasRoom_0 : decode cX8_hasRoom 0 = .ok (.iload_n 1, 1) := by decide +kernel
theorem dX8_hasRoom_1 : decode cX8_hasRoom 1 = .ok (.ifCond .lt 8, 3) := by decide +kernel
theorem dX8_hasRoom_4 : decode cX8_hasRoom 4 = .ok (.iload_n 1, 1) := by decide +kernel
theorem dX8_hasRoom_5 : decode cX8_hasRoom 5 = .ok (.iconst 3, 1) := by decide +kernel
theorem dX8_hasRoom_6 : decode cX8_hasRoom 6 = .ok (.if_icmp .lt 5, 3) := by decide +kernel
theorem dX8_hasRoom_9 : decode cX8_hasRoom 9 = .ok (.iconst 0, 1) := by decide +kernel
theorem dX8_hasRoom_10 : decode cX8_hasRoom 10 = .ok (.ireturn, 1) := by decide +kernel
theorem dX8_hasRoom_11 : decode cX8_hasRoom 11 = .ok (.iload_n 1, 1) := by decide +kernel
theorem dX8_hasRoom_12 : decode cX8_hasRoom 12 = .ok (.ifCond .ne 7, 3) := by decide +kernel
theorem dX8_hasRoom_15 : decode cX8_hasRoom 15 = .ok (.iconst 2, 1) := by decide +kernel
theorem dX8_hasRoom_16 : decode cX8_hasRoom 16 = .ok (.goto 13, 3) := by decide +kernel
theorem dX8_hasRoom_19 : decode cX8_hasRoom 19 = .ok (.iload_n 1, 1) := by decide +kernel
theorem dX8_hasRoom_20 : decode cX8_hasRoom 20 = .ok (.iconst 1, 1) := by decide +kernel
theorem dX8_hasRoom_21 : decode cX8_hasRoom 21 = .ok (.if_icmp .ne 7, 3) := by decide +kernel
theorem dX8_hasRoom_24 : decode cX8_hasRoom 24 = .ok (.iconst 3, 1) := by decide +kernel
theorem dX8_hasRoom_25 : decode cX8_hasRoom 25 = .ok (.goto 4, 3) := by decide +kernel
theorem dX8_hasRoom_28 : decode cX8_hasRoom 28 = .ok (.iconst 2, 1) := by decide +kernel
theorem dX8_hasRoom_29 : decode cX8_hasRoom 29 = .ok (.istore_n 3, 1) := by decide +kernel
theorem dX8_hasRoom_30 : decode cX8_hasRoom 30 = .ok (.iload_n 2, 1) := by decide +kernel
theorem dX8_hasRoom_31 : decode cX8_hasRoom 31 = .ok (.iconst (-1), 1) := by decide +kernel
theorem dX8_hasRoom_32 : decode cX8_hasRoom 32 = .ok (.if_icmp .ne 21, 3) := by decide +kernel
theorem dX8_hasRoom_35 : decode cX8_hasRoom 35 = .ok (.aload_n 0, 1) := by decide +kernel
theorem dX8_hasRoom_36 : decode cX8_hasRoom 36 = .ok (.getfield 19, 3) := by decide +kernel
theorem dX8_hasRoom_39 : decode cX8_hasRoom 39 = .ok (.iload_n 1, 1) := by decide +kernel
theorem dX8_hasRoom_40 : decode cX8_hasRoom 40 = .ok (.iaload, 1) := by decide +kernel
theorem dX8_hasRoom_41 : decode cX8_hasRoom 41 = .ok (.iload_n 3, 1) := by decide +kernel
theorem dX8_hasRoom_42 : decode cX8_hasRoom 42 = .ok (.if_icmp .ge 7, 3) := by decide +kernel
theorem dX8_hasRoom_45 : decode cX8_hasRoom 45 = .ok (.iconst 1, 1) := by decide +kernel
theorem dX8_hasRoom_46 : decode cX8_hasRoom 46 = .ok (.goto 26, 3) := by decide +kernel
theorem dX8_hasRoom_49 : decode cX8_hasRoom 49 = .ok (.iconst 0, 1) := by decide +kernel
theorem dX8_hasRoom_50 : decode cX8_hasRoom 50 = .ok (.goto 22, 3) := by decide +kernel
theorem dX8_hasRoom_53 : decode cX8_hasRoom 53 = .ok (.iload_n 2, 1) := by decide +kernel
theorem dX8_hasRoom_54 : decode cX8_hasRoom 54 = .ok (.ifCond .lt 17, 3) := by decide +kernel
theorem dX8_hasRoom_57 : decode cX8_hasRoom 57 = .ok (.iload_n 2, 1) := by decide +kernel
theorem dX8_hasRoom_58 : decode cX8_hasRoom 58 = .ok (.aload_n 0, 1) := by decide +kernel
theorem dX8_hasRoom_59 : decode cX8_hasRoom 59 = .ok (.getfield 19, 3) := by decide +kernel
theorem dX8_hasRoom_62 : decode cX8_hasRoom 62 = .ok (.iload_n 1, 1) := by decide +kernel
theorem dX8_hasRoom_63 : decode cX8_hasRoom 63 = .ok (.iaload, 1) := by decide +kernel
theorem dX8_hasRoom_64 : decode cX8_hasRoom 64 = .ok (.if_icmp .ge 7, 3) := by decide +kernel
theorem dX8_hasRoom_67 : decode cX8_hasRoom 67 = .ok (.iconst 1, 1) := by decide +kernel
theorem dX8_hasRoom_68 : decode cX8_hasRoom 68 = .ok (.goto 4, 3) := by decide +kernel
theorem dX8_hasRoom_71 : decode cX8_hasRoom 71 = .ok (.iconst 0, 1) := by decide +kernel
theorem dX8_hasRoom_72 : decode cX8_hasRoom 72 = .ok (.ireturn, 1) := by decide +kernel
theorem dX8_take_0 : decode cX8_take 0 = .ok (.iload_n 3, 1) := by decide +kernel
theorem dX8_take_1 : decode cX8_take 1 = .ok (.iconst (-1), 1) := by decide +kernel
theorem dX8_take_2 : decode cX8_take 2 = .ok (.if_icmp .ne 12, 3) := by decide +kernel
theorem dX8_take_5 : decode cX8_take 5 = .ok (.aload_n 0, 1) := by decide +kernel
theorem dX8_take_6 : decode cX8_take 6 = .ok (.getfield 19, 3) := by decide +kernel
theorem dX8_take_9 : decode cX8_take 9 = .ok (.iload_n 2, 1) := by decide +kernel
theorem dX8_take_10 : decode cX8_take 10 = .ok (.iaload, 1) := by decide +kernel
theorem dX8_take_11 : decode cX8_take 11 = .ok (.goto 4, 3) := by decide +kernel
theorem dX8_take_14 : decode cX8_take 14 = .ok (.iload_n 3, 1) := by decide +kernel
theorem dX8_take_15 : decode cX8_take 15 = .ok (.istore 4, 2) := by decide +kernel
theorem dX8_take_17 : decode cX8_take 17 = .ok (.iload_n 2, 1) := by decide +kernel
theorem dX8_take_18 : decode cX8_take 18 = .ok (.ifCond .ne 20, 3) := by decide +kernel
theorem dX8_take_21 : decode cX8_take 21 = .ok (.aload_n 0, 1) := by decide +kernel
theorem dX8_take_22 : decode cX8_take 22 = .ok (.getfield 24, 3) := by decide +kernel
theorem dX8_take_25 : decode cX8_take 25 = .ok (.iload 4, 2) := by decide +kernel
theorem dX8_take_27 : decode cX8_take 27 = .ok (.aaload, 1) := by decide +kernel
theorem dX8_take_28 : decode cX8_take 28 = .ok (.aload_n 1, 1) := by decide +kernel
theorem dX8_take_29 : decode cX8_take 29 = .ok (.getfield 59, 3) := by decide +kernel
theorem dX8_take_32 : decode cX8_take 32 = .ok (.invokevirtual 52, 3) := by decide +kernel
theorem dX8_take_35 : decode cX8_take 35 = .ok (.goto 36, 3) := by decide +kernel
theorem dX8_take_38 : decode cX8_take 38 = .ok (.iload_n 2, 1) := by decide +kernel
theorem dX8_take_39 : decode cX8_take 39 = .ok (.iconst 1, 1) := by decide +kernel
theorem dX8_take_40 : decode cX8_take 40 = .ok (.if_icmp .ne 17, 3) := by decide +kernel
theorem dX8_take_43 : decode cX8_take 43 = .ok (.aload_n 0, 1) := by decide +kernel
theorem dX8_take_44 : decode cX8_take 44 = .ok (.getfield 28, 3) := by decide +kernel
theorem dX8_take_47 : decode cX8_take 47 = .ok (.iload 4, 2) := by decide +kernel
theorem dX8_take_49 : decode cX8_take 49 = .ok (.aload_n 1, 1) := by decide +kernel
theorem dX8_take_50 : decode cX8_take 50 = .ok (.getfield 65, 3) := by decide +kernel
theorem dX8_take_53 : decode cX8_take 53 = .ok (.lastore, 1) := by decide +kernel
theorem dX8_take_54 : decode cX8_take 54 = .ok (.goto 17, 3) := by decide +kernel
theorem dX8_take_57 : decode cX8_take 57 = .ok (.aload_n 0, 1) := by decide +kernel
theorem dX8_take_58 : decode cX8_take 58 = .ok (.getfield 34, 3) := by decide +kernel
theorem dX8_take_61 : decode cX8_take 61 = .ok (.iload 4, 2) := by decide +kernel
theorem dX8_take_63 : decode cX8_take 63 = .ok (.aaload, 1) := by decide +kernel
theorem dX8_take_64 : decode cX8_take 64 = .ok (.aload_n 1, 1) := by decide +kernel
theorem dX8_take_65 : decode cX8_take 65 = .ok (.getfield 69, 3) := by decide +kernel
theorem dX8_take_68 : decode cX8_take 68 = .ok (.invokevirtual 56, 3) := by decide +kernel
theorem dX8_take_71 : decode cX8_take 71 = .ok (.aload_n 0, 1) := by decide +kernel
theorem dX8_take_72 : decode cX8_take 72 = .ok (.getfield 19, 3) := by decide +kernel
theorem dX8_take_75 : decode cX8_take 75 = .ok (.iload_n 2, 1) := by decide +kernel
theorem dX8_take_76 : decode cX8_take 76 = .ok (.aload_n 0, 1) := by decide +kernel
theorem dX8_take_77 : decode cX8_take 77 = .ok (.getfield 19, 3) := by decide +kernel
theorem dX8_take_80 : decode cX8_take 80 = .ok (.iload_n 2, 1) := by decide +kernel
theorem dX8_take_81 : decode cX8_take 81 = .ok (.iaload, 1) := by decide +kernel
theorem dX8_take_82 : decode cX8_take 82 = .ok (.iload 4, 2) := by decide +kernel
theorem dX8_take_84 : decode cX8_take 84 = .ok (.iconst 1, 1) := by decide +kernel
theorem dX8_take_85 : decode cX8_take 85 = .ok (.iadd, 1) := by decide +kernel
theorem dX8_take_86 : decode cX8_take 86 = .ok (.invokestatic 73, 3) := by decide +kernel
theorem dX8_take_89 : decode cX8_take 89 = .ok (.iastore, 1) := by decide +kernel
theorem dX8_take_90 : decode cX8_take 90 = .ok (.iload 4, 2) := by decide +kernel
theorem dX8_take_92 : decode cX8_take 92 = .ok (.ireturn, 1) := by decide +kernel
theorem dX9_init_0 : decode cX9_init 0 = .ok (.aload_n 0, 1) := by decide +kernel
theorem dX9_init_1 : decode cX9_init 1 = .ok (.invokespecial 3, 3) := by decide +kernel
theorem dX9_init_4 : decode cX9_init 4 = .ok (.aload_n 0, 1) := by decide +kernel
theorem dX9_init_5 : decode cX9_init 5 = .ok (.bipush 55, 2) := by decide +kernel
theorem dX9_init_7 : decode cX9_init 7 = .ok (.newarray .int, 2) := by decide +kernel
theorem dX9_init_9 : decode cX9_init 9 = .ok (.putfield 9, 3) := by decide +kernel
theorem dX9_init_12 : decode cX9_init 12 = .ok (.aload_n 0, 1) := by decide +kernel
theorem dX9_init_13 : decode cX9_init 13 = .ok (.new 15, 3) := by decide +kernel
theorem dX9_init_16 : decode cX9_init 16 = .ok (.dup, 1) := by decide +kernel
theorem dX9_init_17 : decode cX9_init 17 = .ok (.invokespecial 17, 3) := by decide +kernel
theorem dX9_init_20 : decode cX9_init 20 = .ok (.putfield 18, 3) := by decide +kernel
theorem dX9_init_23 : decode cX9_init 23 = .ok (.aload_n 0, 1) := by decide +kernel
theorem dX9_init_24 : decode cX9_init 24 = .ok (.bipush 9, 2) := by decide +kernel
theorem dX9_init_26 : decode cX9_init 26 = .ok (.newarray .int, 2) := by decide +kernel
theorem dX9_init_28 : decode cX9_init 28 = .ok (.putfield 22, 3) := by decide +kernel
theorem dX9_init_31 : decode cX9_init 31 = .ok (.aload_n 0, 1) := by decide +kernel
theorem dX9_init_32 : decode cX9_init 32 = .ok (.bipush 9, 2) := by decide +kernel
theorem dX9_init_34 : decode cX9_init 34 = .ok (.newarray .boolean, 2) := by decide +kernel
theorem dX9_init_36 : decode cX9_init 36 = .ok (.putfield 25, 3) := by decide +kernel
theorem dX9_init_39 : decode cX9_init 39 = .ok (.aload_n 0, 1) := by decide +kernel
theorem dX9_init_40 : decode cX9_init 40 = .ok (.sipush 1800, 3) := by decide +kernel
theorem dX9_init_43 : decode cX9_init 43 = .ok (.newarray .int, 2) := by decide +kernel
theorem dX9_init_45 : decode cX9_init 45 = .ok (.putfield 29, 3) := by decide +kernel
theorem dX9_init_48 : decode cX9_init 48 = .ok (.aload_n 0, 1) := by decide +kernel
theorem dX9_init_49 : decode cX9_init 49 = .ok (.sipush 1800, 3) := by decide +kernel
theorem dX9_init_52 : decode cX9_init 52 = .ok (.newarray .int, 2) := by decide +kernel
theorem dX9_init_54 : decode cX9_init 54 = .ok (.putfield 32, 3) := by decide +kernel
theorem dX9_init_57 : decode cX9_init 57 = .ok (.return_, 1) := by decide +kernel
theorem dX9_weigh_0 : decode cX9_weigh 0 = .ok (.aload_n 0, 1) := by decide +kernel
theorem dX9_weigh_1 : decode cX9_weigh 1 = .ok (.getfield 18, 3) := by decide +kernel
theorem dX9_weigh_4 : decode cX9_weigh 4 = .ok (.aload_n 1, 1) := by decide +kernel
theorem dX9_weigh_5 : decode cX9_weigh 5 = .ok (.aload_n 1, 1) := by decide +kernel
theorem dX9_weigh_6 : decode cX9_weigh 6 = .ok (.getfield 35, 3) := by decide +kernel
theorem dX9_weigh_9 : decode cX9_weigh 9 = .ok (.aload_n 1, 1) := by decide +kernel
theorem dX9_weigh_10 : decode cX9_weigh 10 = .ok (.getfield 38, 3) := by decide +kernel
theorem dX9_weigh_13 : decode cX9_weigh 13 = .ok (.iload_n 2, 1) := by decide +kernel
theorem dX9_weigh_14 : decode cX9_weigh 14 = .ok (.iaload, 1) := by decide +kernel
theorem dX9_weigh_15 : decode cX9_weigh 15 = .ok (.iload_n 2, 1) := by decide +kernel
theorem dX9_weigh_16 : decode cX9_weigh 16 = .ok (.invokevirtual 41, 3) := by decide +kernel
theorem dX9_weigh_19 : decode cX9_weigh 19 = .ok (.aload_n 0, 1) := by decide +kernel
theorem dX9_weigh_20 : decode cX9_weigh 20 = .ok (.lload_n 3, 1) := by decide +kernel
theorem dX9_weigh_21 : decode cX9_weigh 21 = .ok (.invokevirtual 45, 3) := by decide +kernel
theorem dX9_weigh_24 : decode cX9_weigh 24 = .ok (.aload_n 0, 1) := by decide +kernel
theorem dX9_weigh_25 : decode cX9_weigh 25 = .ok (.getfield 49, 3) := by decide +kernel
theorem dX9_weigh_28 : decode cX9_weigh 28 = .ok (.istore 6, 2) := by decide +kernel
theorem dX9_weigh_30 : decode cX9_weigh 30 = .ok (.iload 6, 2) := by decide +kernel
theorem dX9_weigh_32 : decode cX9_weigh 32 = .ok (.ifCond .lt 59, 3) := by decide +kernel
theorem dX9_weigh_35 : decode cX9_weigh 35 = .ok (.iconst 0, 1) := by decide +kernel
theorem dX9_weigh_36 : decode cX9_weigh 36 = .ok (.istore 7, 2) := by decide +kernel
theorem dX9_weigh_38 : decode cX9_weigh 38 = .ok (.iload 7, 2) := by decide +kernel
theorem dX9_weigh_40 : decode cX9_weigh 40 = .ok (.iconst 5, 1) := by decide +kernel
theorem dX9_weigh_41 : decode cX9_weigh 41 = .ok (.if_icmp .ge 44, 3) := by decide +kernel
theorem dX9_weigh_44 : decode cX9_weigh 44 = .ok (.iconst 0, 1) := by decide +kernel
theorem dX9_weigh_45 : decode cX9_weigh 45 = .ok (.istore 8, 2) := by decide +kernel
theorem dX9_weigh_47 : decode cX9_weigh 47 = .ok (.iload 8, 2) := by decide +kernel
theorem dX9_weigh_49 : decode cX9_weigh 49 = .ok (.aload_n 1, 1) := by decide +kernel
theorem dX9_weigh_50 : decode cX9_weigh 50 = .ok (.getfield 53, 3) := by decide +kernel
theorem dX9_weigh_53 : decode cX9_weigh 53 = .ok (.aload_n 1, 1) := by decide +kernel
theorem dX9_weigh_54 : decode cX9_weigh 54 = .ok (.getfield 56, 3) := by decide +kernel
theorem dX9_weigh_57 : decode cX9_weigh 57 = .ok (.imul, 1) := by decide +kernel
theorem dX9_weigh_58 : decode cX9_weigh 58 = .ok (.if_icmp .ge 21, 3) := by decide +kernel
theorem dX9_weigh_61 : decode cX9_weigh 61 = .ok (.aload_n 0, 1) := by decide +kernel
theorem dX9_weigh_62 : decode cX9_weigh 62 = .ok (.iload 6, 2) := by decide +kernel
theorem dX9_weigh_64 : decode cX9_weigh 64 = .ok (.iload 7, 2) := by decide +kernel
theorem dX9_weigh_66 : decode cX9_weigh 66 = .ok (.iload 8, 2) := by decide +kernel
theorem dX9_weigh_68 : decode cX9_weigh 68 = .ok (.iload 5, 2) := by decide +kernel
theorem dX9_weigh_70 : decode cX9_weigh 70 = .ok (.invokevirtual 59, 3) := by decide +kernel
theorem dX9_weigh_73 : decode cX9_weigh 73 = .ok (.iinc 8 1, 3) := by decide +kernel
theorem dX9_weigh_76 : decode cX9_weigh 76 = .ok (.goto (-29), 3) := by decide +kernel
theorem dX9_weigh_79 : decode cX9_weigh 79 = .ok (.iinc 7 1, 3) := by decide +kernel
theorem dX9_weigh_82 : decode cX9_weigh 82 = .ok (.goto (-44), 3) := by decide +kernel
theorem dX9_weigh_85 : decode cX9_weigh 85 = .ok (.iinc 6 (-1), 3) := by decide +kernel
theorem dX9_weigh_88 : decode cX9_weigh 88 = .ok (.goto (-58), 3) := by decide +kernel
theorem dX9_weigh_91 : decode cX9_weigh 91 = .ok (.return_, 1) := by decide +kernel
theorem dX9_waysFrom_0 : decode cX9_waysFrom 0 = .ok (.aload_n 0, 1) := by decide +kernel
theorem dX9_waysFrom_1 : decode cX9_waysFrom 1 = .ok (.getfield 29, 3) := by decide +kernel
theorem dX9_waysFrom_4 : decode cX9_waysFrom 4 = .ok (.iconst 0, 1) := by decide +kernel
theorem dX9_waysFrom_5 : decode cX9_waysFrom 5 = .ok (.iconst 4, 1) := by decide +kernel
theorem dX9_waysFrom_6 : decode cX9_waysFrom 6 = .ok (.iload_n 1, 1) := by decide +kernel
theorem dX9_waysFrom_7 : decode cX9_waysFrom 7 = .ok (.invokestatic 63, 3) := by decide +kernel
theorem dX9_waysFrom_10 : decode cX9_waysFrom 10 = .ok (.iaload, 1) := by decide +kernel
theorem dX9_waysFrom_11 : decode cX9_waysFrom 11 = .ok (.ireturn, 1) := by decide +kernel
theorem dX9_spread_0 : decode cX9_spread 0 = .ok (.aload_n 0, 1) := by decide +kernel
theorem dX9_spread_1 : decode cX9_spread 1 = .ok (.iconst 0, 1) := by decide +kernel
theorem dX9_spread_2 : decode cX9_spread 2 = .ok (.putfield 49, 3) := by decide +kernel
theorem dX9_spread_5 : decode cX9_spread 5 = .ok (.iconst (-1), 1) := by decide +kernel
theorem dX9_spread_6 : decode cX9_spread 6 = .ok (.istore_n 3, 1) := by decide +kernel
theorem dX9_spread_7 : decode cX9_spread 7 = .ok (.iconst 0, 1) := by decide +kernel
theorem dX9_spread_8 : decode cX9_spread 8 = .ok (.istore 4, 2) := by decide +kernel
theorem dX9_spread_10 : decode cX9_spread 10 = .ok (.iload 4, 2) := by decide +kernel
theorem dX9_spread_12 : decode cX9_spread 12 = .ok (.lload_n 1, 1) := by decide +kernel
theorem dX9_spread_13 : decode cX9_spread 13 = .ok (.invokestatic 67, 3) := by decide +kernel
theorem dX9_spread_16 : decode cX9_spread 16 = .ok (.if_icmp .ge 92, 3) := by decide +kernel
theorem dX9_spread_19 : decode cX9_spread 19 = .ok (.lload_n 1, 1) := by decide +kernel
theorem dX9_spread_20 : decode cX9_spread 20 = .ok (.iload 4, 2) := by decide +kernel
theorem dX9_spread_22 : decode cX9_spread 22 = .ok (.invokestatic 71, 3) := by decide +kernel
theorem dX9_spread_25 : decode cX9_spread 25 = .ok (.istore 5, 2) := by decide +kernel
theorem dX9_spread_27 : decode cX9_spread 27 = .ok (.iload 5, 2) := by decide +kernel
theorem dX9_spread_29 : decode cX9_spread 29 = .ok (.bipush 6, 2) := by decide +kernel
theorem dX9_spread_31 : decode cX9_spread 31 = .ok (.if_icmp .eq 10, 3) := by decide +kernel
theorem dX9_spread_34 : decode cX9_spread 34 = .ok (.iload 5, 2) := by decide +kernel
theorem dX9_spread_36 : decode cX9_spread 36 = .ok (.bipush 7, 2) := by decide +kernel
theorem dX9_spread_38 : decode cX9_spread 38 = .ok (.if_icmp .ne 7, 3) := by decide +kernel
theorem dX9_spread_41 : decode cX9_spread 41 = .ok (.iconst 1, 1) := by decide +kernel
theorem dX9_spread_42 : decode cX9_spread 42 = .ok (.goto 4, 3) := by decide +kernel
theorem dX9_spread_45 : decode cX9_spread 45 = .ok (.iconst 0, 1) := by decide +kernel
theorem dX9_spread_46 : decode cX9_spread 46 = .ok (.istore 6, 2) := by decide +kernel
theorem dX9_spread_48 : decode cX9_spread 48 = .ok (.iload 6, 2) := by decide +kernel
theorem dX9_spread_50 : decode cX9_spread 50 = .ok (.ifCond .ne 40, 3) := by decide +kernel
theorem dX9_spread_53 : decode cX9_spread 53 = .ok (.iload 5, 2) := by decide +kernel
theorem dX9_spread_55 : decode cX9_spread 55 = .ok (.bipush 10, 2) := by decide +kernel
theorem dX9_spread_57 : decode cX9_spread 57 = .ok (.if_icmp .eq 33, 3) := by decide +kernel
theorem dX9_spread_60 : decode cX9_spread 60 = .ok (.aload_n 0, 1) := by decide +kernel
theorem dX9_spread_61 : decode cX9_spread 61 = .ok (.iload 5, 2) := by decide +kernel
theorem dX9_spread_63 : decode cX9_spread 63 = .ok (.iload_n 3, 1) := by decide +kernel
theorem dX9_spread_64 : decode cX9_spread 64 = .ok (.bipush 7, 2) := by decide +kernel
theorem dX9_spread_66 : decode cX9_spread 66 = .ok (.if_icmp .ne 7, 3) := by decide +kernel
theorem dX9_spread_69 : decode cX9_spread 69 = .ok (.iconst 1, 1) := by decide +kernel
theorem dX9_spread_70 : decode cX9_spread 70 = .ok (.goto 4, 3) := by decide +kernel
theorem dX9_spread_73 : decode cX9_spread 73 = .ok (.iconst 0, 1) := by decide +kernel
theorem dX9_spread_74 : decode cX9_spread 74 = .ok (.invokevirtual 75, 3) := by decide +kernel
theorem dX9_spread_77 : decode cX9_spread 77 = .ok (.iload_n 3, 1) := by decide +kernel
theorem dX9_spread_78 : decode cX9_spread 78 = .ok (.bipush 6, 2) := by decide +kernel
theorem dX9_spread_80 : decode cX9_spread 80 = .ok (.if_icmp .ne 10, 3) := by decide +kernel
theorem dX9_spread_83 : decode cX9_spread 83 = .ok (.aload_n 0, 1) := by decide +kernel
theorem dX9_spread_84 : decode cX9_spread 84 = .ok (.iload 5, 2) := by decide +kernel
theorem dX9_spread_86 : decode cX9_spread 86 = .ok (.iconst 0, 1) := by decide +kernel
theorem dX9_spread_87 : decode cX9_spread 87 = .ok (.invokevirtual 75, 3) := by decide +kernel
theorem dX9_spread_90 : decode cX9_spread 90 = .ok (.iload 6, 2) := by decide +kernel
theorem dX9_spread_92 : decode cX9_spread 92 = .ok (.ifCond .eq 8, 3) := by decide +kernel
theorem dX9_spread_95 : decode cX9_spread 95 = .ok (.iload 5, 2) := by decide +kernel
theorem dX9_spread_97 : decode cX9_spread 97 = .ok (.goto 4, 3) := by decide +kernel
theorem dX9_spread_100 : decode cX9_spread 100 = .ok (.iconst (-1), 1) := by decide +kernel
theorem dX9_spread_101 : decode cX9_spread 101 = .ok (.istore_n 3, 1) := by decide +kernel
theorem dX9_spread_102 : decode cX9_spread 102 = .ok (.iinc 4 1, 3) := by decide +kernel
theorem dX9_spread_105 : decode cX9_spread 105 = .ok (.goto (-95), 3) := by decide +kernel
theorem dX9_spread_108 : decode cX9_spread 108 = .ok (.return_, 1) := by decide +kernel
theorem dX9_put_0 : decode cX9_put 0 = .ok (.aload_n 0, 1) := by decide +kernel
theorem dX9_put_1 : decode cX9_put 1 = .ok (.getfield 49, 3) := by decide +kernel
theorem dX9_put_4 : decode cX9_put 4 = .ok (.bipush 9, 2) := by decide +kernel
theorem dX9_put_6 : decode cX9_put 6 = .ok (.if_icmp .ge 33, 3) := by decide +kernel
theorem dX9_put_9 : decode cX9_put 9 = .ok (.aload_n 0, 1) := by decide +kernel
theorem dX9_put_10 : decode cX9_put 10 = .ok (.getfield 22, 3) := by decide +kernel
theorem dX9_put_13 : decode cX9_put 13 = .ok (.aload_n 0, 1) := by decide +kernel
theorem dX9_put_14 : decode cX9_put 14 = .ok (.getfield 49, 3) := by decide +kernel
theorem dX9_put_17 : decode cX9_put 17 = .ok (.iload_n 1, 1) := by decide +kernel
theorem dX9_put_18 : decode cX9_put 18 = .ok (.iastore, 1) := by decide +kernel
theorem dX9_put_19 : decode cX9_put 19 = .ok (.aload_n 0, 1) := by decide +kernel
theorem dX9_put_20 : decode cX9_put 20 = .ok (.getfield 25, 3) := by decide +kernel
theorem dX9_put_23 : decode cX9_put 23 = .ok (.aload_n 0, 1) := by decide +kernel
theorem dX9_put_24 : decode cX9_put 24 = .ok (.getfield 49, 3) := by decide +kernel
theorem dX9_put_27 : decode cX9_put 27 = .ok (.iload_n 2, 1) := by decide +kernel
theorem dX9_put_28 : decode cX9_put 28 = .ok (.bastore, 1) := by decide +kernel
theorem dX9_put_29 : decode cX9_put 29 = .ok (.aload_n 0, 1) := by decide +kernel
theorem dX9_put_30 : decode cX9_put 30 = .ok (.dup, 1) := by decide +kernel
theorem dX9_put_31 : decode cX9_put 31 = .ok (.getfield 49, 3) := by decide +kernel
theorem dX9_put_34 : decode cX9_put 34 = .ok (.iconst 1, 1) := by decide +kernel
theorem dX9_put_35 : decode cX9_put 35 = .ok (.iadd, 1) := by decide +kernel
theorem dX9_put_36 : decode cX9_put 36 = .ok (.putfield 49, 3) := by decide +kernel
theorem dX9_put_39 : decode cX9_put 39 = .ok (.return_, 1) := by decide +kernel
theorem dX9_place_0 : decode cX9_place 0 = .ok (.iload_n 0, 1) := by decide +kernel
theorem dX9_place_1 : decode cX9_place 1 = .ok (.sipush 180, 3) := by decide +kernel
theorem dX9_place_4 : decode cX9_place 4 = .ok (.imul, 1) := by decide +kernel
theorem dX9_place_5 : decode cX9_place 5 = .ok (.iload_n 1, 1) := by decide +kernel
theorem dX9_place_6 : decode cX9_place 6 = .ok (.bipush 36, 2) := by decide +kernel
theorem dX9_place_8 : decode cX9_place 8 = .ok (.imul, 1) := by decide +kernel
theorem dX9_place_9 : decode cX9_place 9 = .ok (.iadd, 1) := by decide +kernel
theorem dX9_place_10 : decode cX9_place 10 = .ok (.iload_n 2, 1) := by decide +kernel
theorem dX9_place_11 : decode cX9_place 11 = .ok (.iadd, 1) := by decide +kernel
theorem dX9_place_12 : decode cX9_place 12 = .ok (.ireturn, 1) := by decide +kernel
theorem dX9_weighOne_0 : decode cX9_weighOne 0 = .ok (.iload_n 1, 1) := by decide +kernel
theorem dX9_weighOne_1 : decode cX9_weighOne 1 = .ok (.iload_n 2, 1) := by decide +kernel
theorem dX9_weighOne_2 : decode cX9_weighOne 2 = .ok (.iload_n 3, 1) := by decide +kernel
theorem dX9_weighOne_3 : decode cX9_weighOne 3 = .ok (.invokestatic 63, 3) := by decide +kernel
theorem dX9_weighOne_6 : decode cX9_weighOne 6 = .ok (.istore 5, 2) := by decide +kernel
theorem dX9_weighOne_8 : decode cX9_weighOne 8 = .ok (.aload_n 0, 1) := by decide +kernel
theorem dX9_weighOne_9 : decode cX9_weighOne 9 = .ok (.getfield 29, 3) := by decide +kernel
theorem dX9_weighOne_12 : decode cX9_weighOne 12 = .ok (.iload 5, 2) := by decide +kernel
theorem dX9_weighOne_14 : decode cX9_weighOne 14 = .ok (.iconst 0, 1) := by decide +kernel
theorem dX9_weighOne_15 : decode cX9_weighOne 15 = .ok (.iastore, 1) := by decide +kernel
theorem dX9_weighOne_16 : decode cX9_weighOne 16 = .ok (.aload_n 0, 1) := by decide +kernel
theorem dX9_weighOne_17 : decode cX9_weighOne 17 = .ok (.getfield 32, 3) := by decide +kernel
theorem dX9_weighOne_20 : decode cX9_weighOne 20 = .ok (.iload 5, 2) := by decide +kernel
theorem dX9_weighOne_22 : decode cX9_weighOne 22 = .ok (.sipush 1000, 3) := by decide +kernel
theorem dX9_weighOne_25 : decode cX9_weighOne 25 = .ok (.iastore, 1) := by decide +kernel
theorem dX9_weighOne_26 : decode cX9_weighOne 26 = .ok (.iload_n 1, 1) := by decide +kernel
theorem dX9_weighOne_27 : decode cX9_weighOne 27 = .ok (.aload_n 0, 1) := by decide +kernel
theorem dX9_weighOne_28 : decode cX9_weighOne 28 = .ok (.getfield 49, 3) := by decide +kernel
theorem dX9_weighOne_31 : decode cX9_weighOne 31 = .ok (.if_icmp .eq 17, 3) := by decide +kernel
theorem dX9_weighOne_34 : decode cX9_weighOne 34 = .ok (.aload_n 0, 1) := by decide +kernel
theorem dX9_weighOne_35 : decode cX9_weighOne 35 = .ok (.getfield 18, 3) := by decide +kernel
theorem dX9_weighOne_38 : decode cX9_weighOne 38 = .ok (.getfield 79, 3) := by decide +kernel
theorem dX9_weighOne_41 : decode cX9_weighOne 41 = .ok (.iload_n 3, 1) := by decide +kernel
theorem dX9_weighOne_42 : decode cX9_weighOne 42 = .ok (.invokestatic 83, 3) := by decide +kernel
theorem dX9_weighOne_45 : decode cX9_weighOne 45 = .ok (.ifCond .eq 26, 3) := by decide +kernel
theorem dX9_weighOne_48 : decode cX9_weighOne 48 = .ok (.iload_n 3, 1) := by decide +kernel
theorem dX9_weighOne_49 : decode cX9_weighOne 49 = .ok (.iload 4, 2) := by decide +kernel
theorem dX9_weighOne_51 : decode cX9_weighOne 51 = .ok (.if_icmp .ne 19, 3) := by decide +kernel
theorem dX9_weighOne_54 : decode cX9_weighOne 54 = .ok (.aload_n 0, 1) := by decide +kernel
theorem dX9_weighOne_55 : decode cX9_weighOne 55 = .ok (.getfield 29, 3) := by decide +kernel
theorem dX9_weighOne_58 : decode cX9_weighOne 58 = .ok (.iload 5, 2) := by decide +kernel
theorem dX9_weighOne_60 : decode cX9_weighOne 60 = .ok (.iconst 1, 1) := by decide +kernel
theorem dX9_weighOne_61 : decode cX9_weighOne 61 = .ok (.iastore, 1) := by decide +kernel
theorem dX9_weighOne_62 : decode cX9_weighOne 62 = .ok (.aload_n 0, 1) := by decide +kernel
theorem dX9_weighOne_63 : decode cX9_weighOne 63 = .ok (.getfield 32, 3) := by decide +kernel
theorem dX9_weighOne_66 : decode cX9_weighOne 66 = .ok (.iload 5, 2) := by decide +kernel
theorem dX9_weighOne_68 : decode cX9_weighOne 68 = .ok (.iconst 0, 1) := by decide +kernel
theorem dX9_weighOne_69 : decode cX9_weighOne 69 = .ok (.iastore, 1) := by decide +kernel
theorem dX9_weighOne_70 : decode cX9_weighOne 70 = .ok (.return_, 1) := by decide +kernel
theorem dX9_weighOne_71 : decode cX9_weighOne 71 = .ok (.aload_n 0, 1) := by decide +kernel
theorem dX9_weighOne_72 : decode cX9_weighOne 72 = .ok (.getfield 22, 3) := by decide +kernel
theorem dX9_weighOne_75 : decode cX9_weighOne 75 = .ok (.iload_n 1, 1) := by decide +kernel
theorem dX9_weighOne_76 : decode cX9_weighOne 76 = .ok (.iaload, 1) := by decide +kernel
theorem dX9_weighOne_77 : decode cX9_weighOne 77 = .ok (.istore 6, 2) := by decide +kernel
theorem dX9_weighOne_79 : decode cX9_weighOne 79 = .ok (.iload 6, 2) := by decide +kernel
theorem dX9_weighOne_81 : decode cX9_weighOne 81 = .ok (.iconst 4, 1) := by decide +kernel
theorem dX9_weighOne_82 : decode cX9_weighOne 82 = .ok (.if_icmp .gt 16, 3) := by decide +kernel
theorem dX9_weighOne_85 : decode cX9_weighOne 85 = .ok (.aload_n 0, 1) := by decide +kernel
theorem dX9_weighOne_86 : decode cX9_weighOne 86 = .ok (.iload_n 1, 1) := by decide +kernel
theorem dX9_weighOne_87 : decode cX9_weighOne 87 = .ok (.iload 5, 2) := by decide +kernel
theorem dX9_weighOne_89 : decode cX9_weighOne 89 = .ok (.iload_n 3, 1) := by decide +kernel
theorem dX9_weighOne_90 : decode cX9_weighOne 90 = .ok (.invokevirtual 87, 3) := by decide +kernel
theorem dX9_weighOne_93 : decode cX9_weighOne 93 = .ok (.istore 7, 2) := by decide +kernel
theorem dX9_weighOne_95 : decode cX9_weighOne 95 = .ok (.goto 91, 3) := by decide +kernel
theorem dX9_weighOne_98 : decode cX9_weighOne 98 = .ok (.iload 6, 2) := by decide +kernel
theorem dX9_weighOne_100 : decode cX9_weighOne 100 = .ok (.iconst 5, 1) := by decide +kernel
theorem dX9_weighOne_101 : decode cX9_weighOne 101 = .ok (.if_icmp .ne 32, 3) := by decide +kernel
theorem dX9_weighOne_104 : decode cX9_weighOne 104 = .ok (.iload_n 2, 1) := by decide +kernel
theorem dX9_weighOne_105 : decode cX9_weighOne 105 = .ok (.iconst 4, 1) := by decide +kernel
theorem dX9_weighOne_106 : decode cX9_weighOne 106 = .ok (.if_icmp .eq 7, 3) := by decide +kernel
theorem dX9_weighOne_109 : decode cX9_weighOne 109 = .ok (.iconst 1, 1) := by decide +kernel
theorem dX9_weighOne_110 : decode cX9_weighOne 110 = .ok (.goto 4, 3) := by decide +kernel
theorem dX9_weighOne_113 : decode cX9_weighOne 113 = .ok (.iconst 0, 1) := by decide +kernel
theorem dX9_weighOne_114 : decode cX9_weighOne 114 = .ok (.istore 7, 2) := by decide +kernel
theorem dX9_weighOne_116 : decode cX9_weighOne 116 = .ok (.iload 7, 2) := by decide +kernel
theorem dX9_weighOne_118 : decode cX9_weighOne 118 = .ok (.ifCond .eq 68, 3) := by decide +kernel
theorem dX9_weighOne_121 : decode cX9_weighOne 121 = .ok (.aload_n 0, 1) := by decide +kernel
theorem dX9_weighOne_122 : decode cX9_weighOne 122 = .ok (.iload_n 1, 1) := by decide +kernel
theorem dX9_weighOne_123 : decode cX9_weighOne 123 = .ok (.iload 5, 2) := by decide +kernel
theorem dX9_weighOne_125 : decode cX9_weighOne 125 = .ok (.iload_n 2, 1) := by decide +kernel
theorem dX9_weighOne_126 : decode cX9_weighOne 126 = .ok (.iload_n 3, 1) := by decide +kernel
theorem dX9_weighOne_127 : decode cX9_weighOne 127 = .ok (.invokevirtual 91, 3) := by decide +kernel
theorem dX9_weighOne_130 : decode cX9_weighOne 130 = .ok (.goto 56, 3) := by decide +kernel
theorem dX9_weighOne_133 : decode cX9_weighOne 133 = .ok (.aload_n 0, 1) := by decide +kernel
theorem dX9_weighOne_134 : decode cX9_weighOne 134 = .ok (.getfield 18, 3) := by decide +kernel
theorem dX9_weighOne_137 : decode cX9_weighOne 137 = .ok (.getfield 94, 3) := by decide +kernel
theorem dX9_weighOne_140 : decode cX9_weighOne 140 = .ok (.iload_n 3, 1) := by decide +kernel
theorem dX9_weighOne_141 : decode cX9_weighOne 141 = .ok (.invokestatic 83, 3) := by decide +kernel
theorem dX9_weighOne_144 : decode cX9_weighOne 144 = .ok (.iload 6, 2) := by decide +kernel
theorem dX9_weighOne_146 : decode cX9_weighOne 146 = .ok (.bipush 8, 2) := by decide +kernel
theorem dX9_weighOne_148 : decode cX9_weighOne 148 = .ok (.if_icmp .ne 7, 3) := by decide +kernel
theorem dX9_weighOne_151 : decode cX9_weighOne 151 = .ok (.iconst 1, 1) := by decide +kernel
theorem dX9_weighOne_152 : decode cX9_weighOne 152 = .ok (.goto 4, 3) := by decide +kernel
theorem dX9_weighOne_155 : decode cX9_weighOne 155 = .ok (.iconst 0, 1) := by decide +kernel
theorem dX9_weighOne_156 : decode cX9_weighOne 156 = .ok (.if_icmp .ne 7, 3) := by decide +kernel
theorem dX9_weighOne_159 : decode cX9_weighOne 159 = .ok (.iconst 1, 1) := by decide +kernel
theorem dX9_weighOne_160 : decode cX9_weighOne 160 = .ok (.goto 4, 3) := by decide +kernel
theorem dX9_weighOne_163 : decode cX9_weighOne 163 = .ok (.iconst 0, 1) := by decide +kernel
theorem dX9_weighOne_164 : decode cX9_weighOne 164 = .ok (.istore 7, 2) := by decide +kernel
theorem dX9_weighOne_166 : decode cX9_weighOne 166 = .ok (.iload 7, 2) := by decide +kernel
theorem dX9_weighOne_168 : decode cX9_weighOne 168 = .ok (.ifCond .eq 18, 3) := by decide +kernel
theorem dX9_weighOne_171 : decode cX9_weighOne 171 = .ok (.aload_n 0, 1) := by decide +kernel
theorem dX9_weighOne_172 : decode cX9_weighOne 172 = .ok (.iload 5, 2) := by decide +kernel
theorem dX9_weighOne_174 : decode cX9_weighOne 174 = .ok (.iload_n 1, 1) := by decide +kernel
theorem dX9_weighOne_175 : decode cX9_weighOne 175 = .ok (.iconst 1, 1) := by decide +kernel
theorem dX9_weighOne_176 : decode cX9_weighOne 176 = .ok (.iadd, 1) := by decide +kernel
theorem dX9_weighOne_177 : decode cX9_weighOne 177 = .ok (.iload_n 2, 1) := by decide +kernel
theorem dX9_weighOne_178 : decode cX9_weighOne 178 = .ok (.iload_n 3, 1) := by decide +kernel
theorem dX9_weighOne_179 : decode cX9_weighOne 179 = .ok (.invokestatic 63, 3) := by decide +kernel
theorem dX9_weighOne_182 : decode cX9_weighOne 182 = .ok (.iconst 0, 1) := by decide +kernel
theorem dX9_weighOne_183 : decode cX9_weighOne 183 = .ok (.invokevirtual 97, 3) := by decide +kernel
theorem dX9_weighOne_186 : decode cX9_weighOne 186 = .ok (.iload 7, 2) := by decide +kernel
theorem dX9_weighOne_188 : decode cX9_weighOne 188 = .ok (.ifCond .ne 27, 3) := by decide +kernel
theorem dX9_weighOne_191 : decode cX9_weighOne 191 = .ok (.aload_n 0, 1) := by decide +kernel
theorem dX9_weighOne_192 : decode cX9_weighOne 192 = .ok (.getfield 25, 3) := by decide +kernel
theorem dX9_weighOne_195 : decode cX9_weighOne 195 = .ok (.iload_n 1, 1) := by decide +kernel
theorem dX9_weighOne_196 : decode cX9_weighOne 196 = .ok (.baload, 1) := by decide +kernel
theorem dX9_weighOne_197 : decode cX9_weighOne 197 = .ok (.ifCond .eq 18, 3) := by decide +kernel
theorem dX9_weighOne_200 : decode cX9_weighOne 200 = .ok (.aload_n 0, 1) := by decide +kernel
theorem dX9_weighOne_201 : decode cX9_weighOne 201 = .ok (.iload 5, 2) := by decide +kernel
theorem dX9_weighOne_203 : decode cX9_weighOne 203 = .ok (.iload_n 1, 1) := by decide +kernel
theorem dX9_weighOne_204 : decode cX9_weighOne 204 = .ok (.iconst 1, 1) := by decide +kernel
theorem dX9_weighOne_205 : decode cX9_weighOne 205 = .ok (.iadd, 1) := by decide +kernel
theorem dX9_weighOne_206 : decode cX9_weighOne 206 = .ok (.iload_n 2, 1) := by decide +kernel
theorem dX9_weighOne_207 : decode cX9_weighOne 207 = .ok (.iload_n 3, 1) := by decide +kernel
theorem dX9_weighOne_208 : decode cX9_weighOne 208 = .ok (.invokestatic 63, 3) := by decide +kernel
theorem dX9_weighOne_211 : decode cX9_weighOne 211 = .ok (.iconst 0, 1) := by decide +kernel
theorem dX9_weighOne_212 : decode cX9_weighOne 212 = .ok (.invokevirtual 97, 3) := by decide +kernel
theorem dX9_weighOne_215 : decode cX9_weighOne 215 = .ok (.return_, 1) := by decide +kernel
theorem dX9_join_0 : decode cX9_join 0 = .ok (.aload_n 0, 1) := by decide +kernel
theorem dX9_join_1 : decode cX9_join 1 = .ok (.getfield 29, 3) := by decide +kernel
theorem dX9_join_4 : decode cX9_join 4 = .ok (.iload_n 1, 1) := by decide +kernel
theorem dX9_join_5 : decode cX9_join 5 = .ok (.dup2, 1) := by decide +kernel
theorem dX9_join_6 : decode cX9_join 6 = .ok (.iaload, 1) := by decide +kernel
theorem dX9_join_7 : decode cX9_join 7 = .ok (.aload_n 0, 1) := by decide +kernel
theorem dX9_join_8 : decode cX9_join 8 = .ok (.getfield 29, 3) := by decide +kernel
theorem dX9_join_11 : decode cX9_join 11 = .ok (.iload_n 2, 1) := by decide +kernel
theorem dX9_join_12 : decode cX9_join 12 = .ok (.iaload, 1) := by decide +kernel
theorem dX9_join_13 : decode cX9_join 13 = .ok (.iadd, 1) := by decide +kernel
theorem dX9_join_14 : decode cX9_join 14 = .ok (.iastore, 1) := by decide +kernel
theorem dX9_join_15 : decode cX9_join 15 = .ok (.aload_n 0, 1) := by decide +kernel
theorem dX9_join_16 : decode cX9_join 16 = .ok (.getfield 32, 3) := by decide +kernel
theorem dX9_join_19 : decode cX9_join 19 = .ok (.iload_n 1, 1) := by decide +kernel
theorem dX9_join_20 : decode cX9_join 20 = .ok (.aload_n 0, 1) := by decide +kernel
theorem dX9_join_21 : decode cX9_join 21 = .ok (.getfield 32, 3) := by decide +kernel
theorem dX9_join_24 : decode cX9_join 24 = .ok (.iload_n 1, 1) := by decide +kernel
theorem dX9_join_25 : decode cX9_join 25 = .ok (.iaload, 1) := by decide +kernel
theorem dX9_join_26 : decode cX9_join 26 = .ok (.aload_n 0, 1) := by decide +kernel
theorem dX9_join_27 : decode cX9_join 27 = .ok (.getfield 32, 3) := by decide +kernel
theorem dX9_join_30 : decode cX9_join 30 = .ok (.iload_n 2, 1) := by decide +kernel
theorem dX9_join_31 : decode cX9_join 31 = .ok (.iaload, 1) := by decide +kernel
theorem dX9_join_32 : decode cX9_join 32 = .ok (.iload_n 3, 1) := by decide +kernel
theorem dX9_join_33 : decode cX9_join 33 = .ok (.iadd, 1) := by decide +kernel
theorem dX9_join_34 : decode cX9_join 34 = .ok (.invokestatic 101, 3) := by decide +kernel
theorem dX9_join_37 : decode cX9_join 37 = .ok (.iastore, 1) := by decide +kernel
theorem dX9_join_38 : decode cX9_join 38 = .ok (.return_, 1) := by decide +kernel
theorem dX9_weighSteps_0 : decode cX9_weighSteps 0 = .ok (.iconst 0, 1) := by decide +kernel
theorem dX9_weighSteps_1 : decode cX9_weighSteps 1 = .ok (.istore 4, 2) := by decide +kernel
theorem dX9_weighSteps_3 : decode cX9_weighSteps 3 = .ok (.iconst 0, 1) := by decide +kernel
theorem dX9_weighSteps_4 : decode cX9_weighSteps 4 = .ok (.istore 5, 2) := by decide +kernel
theorem dX9_weighSteps_6 : decode cX9_weighSteps 6 = .ok (.iload 5, 2) := by decide +kernel
theorem dX9_weighSteps_8 : decode cX9_weighSteps 8 = .ok (.iconst 4, 1) := by decide +kernel
theorem dX9_weighSteps_9 : decode cX9_weighSteps 9 = .ok (.if_icmp .ge 71, 3) := by decide +kernel
theorem dX9_weighSteps_12 : decode cX9_weighSteps 12 = .ok (.aload_n 0, 1) := by decide +kernel
theorem dX9_weighSteps_13 : decode cX9_weighSteps 13 = .ok (.getfield 22, 3) := by decide +kernel
theorem dX9_weighSteps_16 : decode cX9_weighSteps 16 = .ok (.iload_n 1, 1) := by decide +kernel
theorem dX9_weighSteps_17 : decode cX9_weighSteps 17 = .ok (.iaload, 1) := by decide +kernel
theorem dX9_weighSteps_18 : decode cX9_weighSteps 18 = .ok (.iconst 4, 1) := by decide +kernel
theorem dX9_weighSteps_19 : decode cX9_weighSteps 19 = .ok (.if_icmp .eq 14, 3) := by decide +kernel
theorem dX9_weighSteps_22 : decode cX9_weighSteps 22 = .ok (.aload_n 0, 1) := by decide +kernel
theorem dX9_weighSteps_23 : decode cX9_weighSteps 23 = .ok (.getfield 22, 3) := by decide +kernel
theorem dX9_weighSteps_26 : decode cX9_weighSteps 26 = .ok (.iload_n 1, 1) := by decide +kernel
theorem dX9_weighSteps_27 : decode cX9_weighSteps 27 = .ok (.iaload, 1) := by decide +kernel
theorem dX9_weighSteps_28 : decode cX9_weighSteps 28 = .ok (.iload 5, 2) := by decide +kernel
theorem dX9_weighSteps_30 : decode cX9_weighSteps 30 = .ok (.if_icmp .ne 16, 3) := by decide +kernel
theorem dX9_weighSteps_33 : decode cX9_weighSteps 33 = .ok (.aload_n 0, 1) := by decide +kernel
theorem dX9_weighSteps_34 : decode cX9_weighSteps 34 = .ok (.getfield 18, 3) := by decide +kernel
theorem dX9_weighSteps_37 : decode cX9_weighSteps 37 = .ok (.iload_n 3, 1) := by decide +kernel
theorem dX9_weighSteps_38 : decode cX9_weighSteps 38 = .ok (.iload 5, 2) := by decide +kernel
theorem dX9_weighSteps_40 : decode cX9_weighSteps 40 = .ok (.invokevirtual 107, 3) := by decide +kernel
theorem dX9_weighSteps_43 : decode cX9_weighSteps 43 = .ok (.goto 4, 3) := by decide +kernel
theorem dX9_weighSteps_46 : decode cX9_weighSteps 46 = .ok (.iconst (-1), 1) := by decide +kernel
theorem dX9_weighSteps_47 : decode cX9_weighSteps 47 = .ok (.istore 6, 2) := by decide +kernel
theorem dX9_weighSteps_49 : decode cX9_weighSteps 49 = .ok (.iload 6, 2) := by decide +kernel
theorem dX9_weighSteps_51 : decode cX9_weighSteps 51 = .ok (.iconst (-1), 1) := by decide +kernel
theorem dX9_weighSteps_52 : decode cX9_weighSteps 52 = .ok (.if_icmp .eq 22, 3) := by decide +kernel
theorem dX9_weighSteps_55 : decode cX9_weighSteps 55 = .ok (.aload_n 0, 1) := by decide +kernel
theorem dX9_weighSteps_56 : decode cX9_weighSteps 56 = .ok (.iload_n 2, 1) := by decide +kernel
theorem dX9_weighSteps_57 : decode cX9_weighSteps 57 = .ok (.iload_n 1, 1) := by decide +kernel
theorem dX9_weighSteps_58 : decode cX9_weighSteps 58 = .ok (.iconst 1, 1) := by decide +kernel
theorem dX9_weighSteps_59 : decode cX9_weighSteps 59 = .ok (.iadd, 1) := by decide +kernel
theorem dX9_weighSteps_60 : decode cX9_weighSteps 60 = .ok (.iload 5, 2) := by decide +kernel
theorem dX9_weighSteps_62 : decode cX9_weighSteps 62 = .ok (.iload 6, 2) := by decide +kernel
theorem dX9_weighSteps_64 : decode cX9_weighSteps 64 = .ok (.invokestatic 63, 3) := by decide +kernel
theorem dX9_weighSteps_67 : decode cX9_weighSteps 67 = .ok (.iconst 1, 1) := by decide +kernel
theorem dX9_weighSteps_68 : decode cX9_weighSteps 68 = .ok (.invokevirtual 97, 3) := by decide +kernel
theorem dX9_weighSteps_71 : decode cX9_weighSteps 71 = .ok (.iconst 1, 1) := by decide +kernel
theorem dX9_weighSteps_72 : decode cX9_weighSteps 72 = .ok (.istore 4, 2) := by decide +kernel
theorem dX9_weighSteps_74 : decode cX9_weighSteps 74 = .ok (.iinc 5 1, 3) := by decide +kernel
theorem dX9_weighSteps_77 : decode cX9_weighSteps 77 = .ok (.goto (-71), 3) := by decide +kernel
theorem dX9_weighSteps_80 : decode cX9_weighSteps 80 = .ok (.iload 4, 2) := by decide +kernel
theorem dX9_weighSteps_82 : decode cX9_weighSteps 82 = .ok (.ireturn, 1) := by decide +kernel
theorem dX9_weighOn_0 : decode cX9_weighOn 0 = .ok (.aload_n 0, 1) := by decide +kernel
theorem dX9_weighOn_1 : decode cX9_weighOn 1 = .ok (.iconst 0, 1) := by decide +kernel
theorem dX9_weighOn_2 : decode cX9_weighOn 2 = .ok (.putfield 110, 3) := by decide +kernel
theorem dX9_weighOn_5 : decode cX9_weighOn 5 = .ok (.aload_n 0, 1) := by decide +kernel
theorem dX9_weighOn_6 : decode cX9_weighOn 6 = .ok (.iload 4, 2) := by decide +kernel
theorem dX9_weighOn_8 : decode cX9_weighOn 8 = .ok (.iload_n 3, 1) := by decide +kernel
theorem dX9_weighOn_9 : decode cX9_weighOn 9 = .ok (.invokevirtual 113, 3) := by decide +kernel
theorem dX9_weighOn_12 : decode cX9_weighOn 12 = .ok (.istore 5, 2) := by decide +kernel
theorem dX9_weighOn_14 : decode cX9_weighOn 14 = .ok (.aload_n 0, 1) := by decide +kernel
theorem dX9_weighOn_15 : decode cX9_weighOn 15 = .ok (.iload_n 2, 1) := by decide +kernel
theorem dX9_weighOn_16 : decode cX9_weighOn 16 = .ok (.iload_n 1, 1) := by decide +kernel
theorem dX9_weighOn_17 : decode cX9_weighOn 17 = .ok (.iconst 1, 1) := by decide +kernel
theorem dX9_weighOn_18 : decode cX9_weighOn 18 = .ok (.iadd, 1) := by decide +kernel
theorem dX9_weighOn_19 : decode cX9_weighOn 19 = .ok (.iload_n 3, 1) := by decide +kernel
theorem dX9_weighOn_20 : decode cX9_weighOn 20 = .ok (.iload 5, 2) := by decide +kernel
theorem dX9_weighOn_22 : decode cX9_weighOn 22 = .ok (.invokestatic 63, 3) := by decide +kernel
theorem dX9_weighOn_25 : decode cX9_weighOn 25 = .ok (.aload_n 0, 1) := by decide +kernel
theorem dX9_weighOn_26 : decode cX9_weighOn 26 = .ok (.getfield 110, 3) := by decide +kernel
theorem dX9_weighOn_29 : decode cX9_weighOn 29 = .ok (.invokevirtual 97, 3) := by decide +kernel
theorem dX9_weighOn_32 : decode cX9_weighOn 32 = .ok (.return_, 1) := by decide +kernel
theorem dX9_follow_0 : decode cX9_follow 0 = .ok (.aload_n 0, 1) := by decide +kernel
theorem dX9_follow_1 : decode cX9_follow 1 = .ok (.iconst 0, 1) := by decide +kernel
theorem dX9_follow_2 : decode cX9_follow 2 = .ok (.putfield 110, 3) := by decide +kernel
theorem dX9_follow_5 : decode cX9_follow 5 = .ok (.aload_n 0, 1) := by decide +kernel
theorem dX9_follow_6 : decode cX9_follow 6 = .ok (.iload_n 1, 1) := by decide +kernel
theorem dX9_follow_7 : decode cX9_follow 7 = .ok (.invokevirtual 116, 3) := by decide +kernel
theorem dX9_follow_10 : decode cX9_follow 10 = .ok (.istore_n 2, 1) := by decide +kernel
theorem dX9_follow_11 : decode cX9_follow 11 = .ok (.iconst 4, 1) := by decide +kernel
theorem dX9_follow_12 : decode cX9_follow 12 = .ok (.istore_n 3, 1) := by decide +kernel
theorem dX9_follow_13 : decode cX9_follow 13 = .ok (.iconst 0, 1) := by decide +kernel
theorem dX9_follow_14 : decode cX9_follow 14 = .ok (.istore 4, 2) := by decide +kernel
theorem dX9_follow_16 : decode cX9_follow 16 = .ok (.iload 4, 2) := by decide +kernel
theorem dX9_follow_18 : decode cX9_follow 18 = .ok (.aload_n 0, 1) := by decide +kernel
theorem dX9_follow_19 : decode cX9_follow 19 = .ok (.getfield 49, 3) := by decide +kernel
theorem dX9_follow_22 : decode cX9_follow 22 = .ok (.if_icmp .ge 82, 3) := by decide +kernel
theorem dX9_follow_25 : decode cX9_follow 25 = .ok (.aload_n 0, 1) := by decide +kernel
theorem dX9_follow_26 : decode cX9_follow 26 = .ok (.getfield 18, 3) := by decide +kernel
theorem dX9_follow_29 : decode cX9_follow 29 = .ok (.getfield 79, 3) := by decide +kernel
theorem dX9_follow_32 : decode cX9_follow 32 = .ok (.iload_n 2, 1) := by decide +kernel
theorem dX9_follow_33 : decode cX9_follow 33 = .ok (.invokestatic 83, 3) := by decide +kernel
theorem dX9_follow_36 : decode cX9_follow 36 = .ok (.ifCond .ne 68, 3) := by decide +kernel
theorem dX9_follow_39 : decode cX9_follow 39 = .ok (.aload_n 0, 1) := by decide +kernel
theorem dX9_follow_40 : decode cX9_follow 40 = .ok (.iload 4, 2) := by decide +kernel
theorem dX9_follow_42 : decode cX9_follow 42 = .ok (.iload_n 2, 1) := by decide +kernel
theorem dX9_follow_43 : decode cX9_follow 43 = .ok (.invokevirtual 120, 3) := by decide +kernel
theorem dX9_follow_46 : decode cX9_follow 46 = .ok (.istore 5, 2) := by decide +kernel
theorem dX9_follow_48 : decode cX9_follow 48 = .ok (.iload 5, 2) := by decide +kernel
theorem dX9_follow_50 : decode cX9_follow 50 = .ok (.iconst (-1), 1) := by decide +kernel
theorem dX9_follow_51 : decode cX9_follow 51 = .ok (.if_icmp .eq 24, 3) := by decide +kernel
theorem dX9_follow_54 : decode cX9_follow 54 = .ok (.iload 5, 2) := by decide +kernel
theorem dX9_follow_56 : decode cX9_follow 56 = .ok (.istore_n 3, 1) := by decide +kernel
theorem dX9_follow_57 : decode cX9_follow 57 = .ok (.aload_n 0, 1) := by decide +kernel
theorem dX9_follow_58 : decode cX9_follow 58 = .ok (.aload_n 0, 1) := by decide +kernel
theorem dX9_follow_59 : decode cX9_follow 59 = .ok (.getfield 18, 3) := by decide +kernel
theorem dX9_follow_62 : decode cX9_follow 62 = .ok (.iload_n 2, 1) := by decide +kernel
theorem dX9_follow_63 : decode cX9_follow 63 = .ok (.iload 5, 2) := by decide +kernel
theorem dX9_follow_65 : decode cX9_follow 65 = .ok (.invokevirtual 107, 3) := by decide +kernel
theorem dX9_follow_68 : decode cX9_follow 68 = .ok (.invokevirtual 116, 3) := by decide +kernel
theorem dX9_follow_71 : decode cX9_follow 71 = .ok (.istore_n 2, 1) := by decide +kernel
theorem dX9_follow_72 : decode cX9_follow 72 = .ok (.goto 26, 3) := by decide +kernel
theorem dX9_follow_75 : decode cX9_follow 75 = .ok (.aload_n 0, 1) := by decide +kernel
theorem dX9_follow_76 : decode cX9_follow 76 = .ok (.getfield 22, 3) := by decide +kernel
theorem dX9_follow_79 : decode cX9_follow 79 = .ok (.iload 4, 2) := by decide +kernel
theorem dX9_follow_81 : decode cX9_follow 81 = .ok (.iaload, 1) := by decide +kernel
theorem dX9_follow_82 : decode cX9_follow 82 = .ok (.iconst 5, 1) := by decide +kernel
theorem dX9_follow_83 : decode cX9_follow 83 = .ok (.if_icmp .ne 15, 3) := by decide +kernel
theorem dX9_follow_86 : decode cX9_follow 86 = .ok (.iload_n 3, 1) := by decide +kernel
theorem dX9_follow_87 : decode cX9_follow 87 = .ok (.iconst 4, 1) := by decide +kernel
theorem dX9_follow_88 : decode cX9_follow 88 = .ok (.if_icmp .eq 10, 3) := by decide +kernel
theorem dX9_follow_91 : decode cX9_follow 91 = .ok (.aload_n 0, 1) := by decide +kernel
theorem dX9_follow_92 : decode cX9_follow 92 = .ok (.iload_n 2, 1) := by decide +kernel
theorem dX9_follow_93 : decode cX9_follow 93 = .ok (.iload_n 3, 1) := by decide +kernel
theorem dX9_follow_94 : decode cX9_follow 94 = .ok (.invokevirtual 113, 3) := by decide +kernel
theorem dX9_follow_97 : decode cX9_follow 97 = .ok (.istore_n 2, 1) := by decide +kernel
theorem dX9_follow_98 : decode cX9_follow 98 = .ok (.iinc 4 1, 3) := by decide +kernel
theorem dX9_follow_101 : decode cX9_follow 101 = .ok (.goto (-85), 3) := by decide +kernel
theorem dX9_follow_104 : decode cX9_follow 104 = .ok (.return_, 1) := by decide +kernel
theorem dX9_followOn_0 : decode cX9_followOn 0 = .ok (.iload_n 1, 1) := by decide +kernel
theorem dX9_followOn_1 : decode cX9_followOn 1 = .ok (.istore_n 3, 1) := by decide +kernel
theorem dX9_followOn_2 : decode cX9_followOn 2 = .ok (.iconst 0, 1) := by decide +kernel
theorem dX9_followOn_3 : decode cX9_followOn 3 = .ok (.istore 4, 2) := by decide +kernel
theorem dX9_followOn_5 : decode cX9_followOn 5 = .ok (.iload 4, 2) := by decide +kernel
theorem dX9_followOn_7 : decode cX9_followOn 7 = .ok (.bipush 6, 2) := by decide +kernel
theorem dX9_followOn_9 : decode cX9_followOn 9 = .ok (.if_icmp .ge 50, 3) := by decide +kernel
theorem dX9_followOn_12 : decode cX9_followOn 12 = .ok (.aload_n 0, 1) := by decide +kernel
theorem dX9_followOn_13 : decode cX9_followOn 13 = .ok (.getfield 18, 3) := by decide +kernel
theorem dX9_followOn_16 : decode cX9_followOn 16 = .ok (.getfield 79, 3) := by decide +kernel
theorem dX9_followOn_19 : decode cX9_followOn 19 = .ok (.iload_n 3, 1) := by decide +kernel
theorem dX9_followOn_20 : decode cX9_followOn 20 = .ok (.invokestatic 83, 3) := by decide +kernel
theorem dX9_followOn_23 : decode cX9_followOn 23 = .ok (.ifCond .ne 36, 3) := by decide +kernel
theorem dX9_followOn_26 : decode cX9_followOn 26 = .ok (.aload_n 0, 1) := by decide +kernel
theorem dX9_followOn_27 : decode cX9_followOn 27 = .ok (.getfield 18, 3) := by decide +kernel
theorem dX9_followOn_30 : decode cX9_followOn 30 = .ok (.iload_n 3, 1) := by decide +kernel
theorem dX9_followOn_31 : decode cX9_followOn 31 = .ok (.iload_n 2, 1) := by decide +kernel
theorem dX9_followOn_32 : decode cX9_followOn 32 = .ok (.invokevirtual 107, 3) := by decide +kernel
theorem dX9_followOn_35 : decode cX9_followOn 35 = .ok (.istore 5, 2) := by decide +kernel
theorem dX9_followOn_37 : decode cX9_followOn 37 = .ok (.iload 5, 2) := by decide +kernel
theorem dX9_followOn_39 : decode cX9_followOn 39 = .ok (.iconst (-1), 1) := by decide +kernel
theorem dX9_followOn_40 : decode cX9_followOn 40 = .ok (.if_icmp .ne 6, 3) := by decide +kernel
theorem dX9_followOn_43 : decode cX9_followOn 43 = .ok (.goto 16, 3) := by decide +kernel
theorem dX9_followOn_46 : decode cX9_followOn 46 = .ok (.aload_n 0, 1) := by decide +kernel
theorem dX9_followOn_47 : decode cX9_followOn 47 = .ok (.iload 5, 2) := by decide +kernel
theorem dX9_followOn_49 : decode cX9_followOn 49 = .ok (.invokevirtual 116, 3) := by decide +kernel
theorem dX9_followOn_52 : decode cX9_followOn 52 = .ok (.istore_n 3, 1) := by decide +kernel
theorem dX9_followOn_53 : decode cX9_followOn 53 = .ok (.iinc 4 1, 3) := by decide +kernel
theorem dX9_followOn_56 : decode cX9_followOn 56 = .ok (.goto (-51), 3) := by decide +kernel
theorem dX9_followOn_59 : decode cX9_followOn 59 = .ok (.iload_n 3, 1) := by decide +kernel
theorem dX9_followOn_60 : decode cX9_followOn 60 = .ok (.ireturn, 1) := by decide +kernel
theorem dX9_reach_0 : decode cX9_reach 0 = .ok (.aload_n 0, 1) := by decide +kernel
theorem dX9_reach_1 : decode cX9_reach 1 = .ok (.getfield 110, 3) := by decide +kernel
theorem dX9_reach_4 : decode cX9_reach 4 = .ok (.aload_n 0, 1) := by decide +kernel
theorem dX9_reach_5 : decode cX9_reach 5 = .ok (.getfield 9, 3) := by decide +kernel
theorem dX9_reach_8 : decode cX9_reach 8 = .ok (.arraylength, 1) := by decide +kernel
theorem dX9_reach_9 : decode cX9_reach 9 = .ok (.if_icmp .ge 23, 3) := by decide +kernel
theorem dX9_reach_12 : decode cX9_reach 12 = .ok (.aload_n 0, 1) := by decide +kernel
theorem dX9_reach_13 : decode cX9_reach 13 = .ok (.getfield 9, 3) := by decide +kernel
theorem dX9_reach_16 : decode cX9_reach 16 = .ok (.aload_n 0, 1) := by decide +kernel
theorem dX9_reach_17 : decode cX9_reach 17 = .ok (.getfield 110, 3) := by decide +kernel
theorem dX9_reach_20 : decode cX9_reach 20 = .ok (.iload_n 1, 1) := by decide +kernel
theorem dX9_reach_21 : decode cX9_reach 21 = .ok (.iastore, 1) := by decide +kernel
theorem dX9_reach_22 : decode cX9_reach 22 = .ok (.aload_n 0, 1) := by decide +kernel
theorem dX9_reach_23 : decode cX9_reach 23 = .ok (.dup, 1) := by decide +kernel
theorem dX9_reach_24 : decode cX9_reach 24 = .ok (.getfield 110, 3) := by decide +kernel
theorem dX9_reach_27 : decode cX9_reach 27 = .ok (.iconst 1, 1) := by decide +kernel
theorem dX9_reach_28 : decode cX9_reach 28 = .ok (.iadd, 1) := by decide +kernel
theorem dX9_reach_29 : decode cX9_reach 29 = .ok (.putfield 110, 3) := by decide +kernel
theorem dX9_reach_32 : decode cX9_reach 32 = .ok (.iload_n 1, 1) := by decide +kernel
theorem dX9_reach_33 : decode cX9_reach 33 = .ok (.ireturn, 1) := by decide +kernel
theorem dX9_firstSide_0 : decode cX9_firstSide 0 = .ok (.iconst (-1), 1) := by decide +kernel
theorem dX9_firstSide_1 : decode cX9_firstSide 1 = .ok (.istore_n 3, 1) := by decide +kernel
theorem dX9_firstSide_2 : decode cX9_firstSide 2 = .ok (.sipush 1000, 3) := by decide +kernel
theorem dX9_firstSide_5 : decode cX9_firstSide 5 = .ok (.istore 4, 2) := by decide +kernel
theorem dX9_firstSide_7 : decode cX9_firstSide 7 = .ok (.iconst 0, 1) := by decide +kernel
theorem dX9_firstSide_8 : decode cX9_firstSide 8 = .ok (.istore 5, 2) := by decide +kernel
theorem dX9_firstSide_10 : decode cX9_firstSide 10 = .ok (.iload 5, 2) := by decide +kernel
theorem dX9_firstSide_12 : decode cX9_firstSide 12 = .ok (.iconst 4, 1) := by decide +kernel
theorem dX9_firstSide_13 : decode cX9_firstSide 13 = .ok (.if_icmp .ge 92, 3) := by decide +kernel
theorem dX9_firstSide_16 : decode cX9_firstSide 16 = .ok (.aload_n 0, 1) := by decide +kernel
theorem dX9_firstSide_17 : decode cX9_firstSide 17 = .ok (.getfield 22, 3) := by decide +kernel
theorem dX9_firstSide_20 : decode cX9_firstSide 20 = .ok (.iload_n 1, 1) := by decide +kernel
theorem dX9_firstSide_21 : decode cX9_firstSide 21 = .ok (.iaload, 1) := by decide +kernel
theorem dX9_firstSide_22 : decode cX9_firstSide 22 = .ok (.iconst 4, 1) := by decide +kernel
theorem dX9_firstSide_23 : decode cX9_firstSide 23 = .ok (.if_icmp .eq 14, 3) := by decide +kernel
theorem dX9_firstSide_26 : decode cX9_firstSide 26 = .ok (.aload_n 0, 1) := by decide +kernel
theorem dX9_firstSide_27 : decode cX9_firstSide 27 = .ok (.getfield 22, 3) := by decide +kernel
theorem dX9_firstSide_30 : decode cX9_firstSide 30 = .ok (.iload_n 1, 1) := by decide +kernel
theorem dX9_firstSide_31 : decode cX9_firstSide 31 = .ok (.iaload, 1) := by decide +kernel
theorem dX9_firstSide_32 : decode cX9_firstSide 32 = .ok (.iload 5, 2) := by decide +kernel
theorem dX9_firstSide_34 : decode cX9_firstSide 34 = .ok (.if_icmp .ne 16, 3) := by decide +kernel
theorem dX9_firstSide_37 : decode cX9_firstSide 37 = .ok (.aload_n 0, 1) := by decide +kernel
theorem dX9_firstSide_38 : decode cX9_firstSide 38 = .ok (.getfield 18, 3) := by decide +kernel
theorem dX9_firstSide_41 : decode cX9_firstSide 41 = .ok (.iload_n 2, 1) := by decide +kernel
theorem dX9_firstSide_42 : decode cX9_firstSide 42 = .ok (.iload 5, 2) := by decide +kernel
theorem dX9_firstSide_44 : decode cX9_firstSide 44 = .ok (.invokevirtual 107, 3) := by decide +kernel
theorem dX9_firstSide_47 : decode cX9_firstSide 47 = .ok (.goto 4, 3) := by decide +kernel
theorem dX9_firstSide_50 : decode cX9_firstSide 50 = .ok (.iconst (-1), 1) := by decide +kernel
theorem dX9_firstSide_51 : decode cX9_firstSide 51 = .ok (.istore 6, 2) := by decide +kernel
theorem dX9_firstSide_53 : decode cX9_firstSide 53 = .ok (.iload 6, 2) := by decide +kernel
theorem dX9_firstSide_55 : decode cX9_firstSide 55 = .ok (.iconst (-1), 1) := by decide +kernel
theorem dX9_firstSide_56 : decode cX9_firstSide 56 = .ok (.if_icmp .eq 43, 3) := by decide +kernel
theorem dX9_firstSide_59 : decode cX9_firstSide 59 = .ok (.aload_n 0, 1) := by decide +kernel
theorem dX9_firstSide_60 : decode cX9_firstSide 60 = .ok (.getfield 32, 3) := by decide +kernel
theorem dX9_firstSide_63 : decode cX9_firstSide 63 = .ok (.iload_n 1, 1) := by decide +kernel
theorem dX9_firstSide_64 : decode cX9_firstSide 64 = .ok (.iconst 1, 1) := by decide +kernel
theorem dX9_firstSide_65 : decode cX9_firstSide 65 = .ok (.iadd, 1) := by decide +kernel
theorem dX9_firstSide_66 : decode cX9_firstSide 66 = .ok (.iload 5, 2) := by decide +kernel
theorem dX9_firstSide_68 : decode cX9_firstSide 68 = .ok (.iload 6, 2) := by decide +kernel
theorem dX9_firstSide_70 : decode cX9_firstSide 70 = .ok (.invokestatic 63, 3) := by decide +kernel
theorem dX9_firstSide_73 : decode cX9_firstSide 73 = .ok (.iaload, 1) := by decide +kernel
theorem dX9_firstSide_74 : decode cX9_firstSide 74 = .ok (.iload 4, 2) := by decide +kernel
theorem dX9_firstSide_76 : decode cX9_firstSide 76 = .ok (.if_icmp .ge 23, 3) := by decide +kernel
theorem dX9_firstSide_79 : decode cX9_firstSide 79 = .ok (.aload_n 0, 1) := by decide +kernel
theorem dX9_firstSide_80 : decode cX9_firstSide 80 = .ok (.getfield 32, 3) := by decide +kernel
theorem dX9_firstSide_83 : decode cX9_firstSide 83 = .ok (.iload_n 1, 1) := by decide +kernel
theorem dX9_firstSide_84 : decode cX9_firstSide 84 = .ok (.iconst 1, 1) := by decide +kernel
theorem dX9_firstSide_85 : decode cX9_firstSide 85 = .ok (.iadd, 1) := by decide +kernel
theorem dX9_firstSide_86 : decode cX9_firstSide 86 = .ok (.iload 5, 2) := by decide +kernel
theorem dX9_firstSide_88 : decode cX9_firstSide 88 = .ok (.iload 6, 2) := by decide +kernel
theorem dX9_firstSide_90 : decode cX9_firstSide 90 = .ok (.invokestatic 63, 3) := by decide +kernel
theorem dX9_firstSide_93 : decode cX9_firstSide 93 = .ok (.iaload, 1) := by decide +kernel
theorem dX9_firstSide_94 : decode cX9_firstSide 94 = .ok (.istore 4, 2) := by decide +kernel
theorem dX9_firstSide_96 : decode cX9_firstSide 96 = .ok (.iload 5, 2) := by decide +kernel
theorem dX9_firstSide_98 : decode cX9_firstSide 98 = .ok (.istore_n 3, 1) := by decide +kernel
theorem dX9_firstSide_99 : decode cX9_firstSide 99 = .ok (.iinc 5 1, 3) := by decide +kernel
theorem dX9_firstSide_102 : decode cX9_firstSide 102 = .ok (.goto (-92), 3) := by decide +kernel
theorem dX9_firstSide_105 : decode cX9_firstSide 105 = .ok (.iload_n 3, 1) := by decide +kernel
theorem dX9_firstSide_106 : decode cX9_firstSide 106 = .ok (.ireturn, 1) := by decide +kernel
theorem dX10_init_0 : decode cX10_init 0 = .ok (.aload_n 0, 1) := by decide +kernel
theorem dX10_init_1 : decode cX10_init 1 = .ok (.invokespecial 3, 3) := by decide +kernel
theorem dX10_init_4 : decode cX10_init 4 = .ok (.aload_n 0, 1) := by decide +kernel
theorem dX10_init_5 : decode cX10_init 5 = .ok (.iconst 5, 1) := by decide +kernel
theorem dX10_init_6 : decode cX10_init 6 = .ok (.newarray .long, 2) := by decide +kernel
theorem dX10_init_8 : decode cX10_init 8 = .ok (.putfield 9, 3) := by decide +kernel
theorem dX10_init_11 : decode cX10_init 11 = .ok (.aload_n 0, 1) := by decide +kernel
theorem dX10_init_12 : decode cX10_init 12 = .ok (.iconst 5, 1) := by decide +kernel
theorem dX10_init_13 : decode cX10_init 13 = .ok (.newarray .long, 2) := by decide +kernel
theorem dX10_init_15 : decode cX10_init 15 = .ok (.putfield 15, 3) := by decide +kernel
theorem dX10_init_18 : decode cX10_init 18 = .ok (.aload_n 0, 1) := by decide +kernel
theorem dX10_init_19 : decode cX10_init 19 = .ok (.iconst (-1), 1) := by decide +kernel
theorem dX10_init_20 : decode cX10_init 20 = .ok (.putfield 18, 3) := by decide +kernel
theorem dX10_init_23 : decode cX10_init 23 = .ok (.aload_n 0, 1) := by decide +kernel
theorem dX10_init_24 : decode cX10_init 24 = .ok (.aload_n 1, 1) := by decide +kernel
theorem dX10_init_25 : decode cX10_init 25 = .ok (.putfield 22, 3) := by decide +kernel
theorem dX10_init_28 : decode cX10_init 28 = .ok (.return_, 1) := by decide +kernel
theorem dX10_begin_0 : decode cX10_begin 0 = .ok (.iconst 0, 1) := by decide +kernel
theorem dX10_begin_1 : decode cX10_begin 1 = .ok (.istore_n 3, 1) := by decide +kernel
theorem dX10_begin_2 : decode cX10_begin 2 = .ok (.iload_n 3, 1) := by decide +kernel
theorem dX10_begin_3 : decode cX10_begin 3 = .ok (.iconst 5, 1) := by decide +kernel
theorem dX10_begin_4 : decode cX10_begin 4 = .ok (.if_icmp .ge 28, 3) := by decide +kernel
theorem dX10_begin_7 : decode cX10_begin 7 = .ok (.aload_n 0, 1) := by decide +kernel
theorem dX10_begin_8 : decode cX10_begin 8 = .ok (.getfield 9, 3) := by decide +kernel
theorem dX10_begin_11 : decode cX10_begin 11 = .ok (.iload_n 3, 1) := by decide +kernel
theorem dX10_begin_12 : decode cX10_begin 12 = .ok (.iload_n 3, 1) := by decide +kernel
theorem dX10_begin_13 : decode cX10_begin 13 = .ok (.iload_n 1, 1) := by decide +kernel
theorem dX10_begin_14 : decode cX10_begin 14 = .ok (.if_icmp .ne 10, 3) := by decide +kernel
theorem dX10_begin_17 : decode cX10_begin 17 = .ok (.iload_n 2, 1) := by decide +kernel
theorem dX10_begin_18 : decode cX10_begin 18 = .ok (.invokestatic 26, 3) := by decide +kernel
theorem dX10_begin_21 : decode cX10_begin 21 = .ok (.goto 4, 3) := by decide +kernel
theorem dX10_begin_24 : decode cX10_begin 24 = .ok (.lconst 0, 1) := by decide +kernel
theorem dX10_begin_25 : decode cX10_begin 25 = .ok (.lastore, 1) := by decide +kernel
theorem dX10_begin_26 : decode cX10_begin 26 = .ok (.iinc 3 1, 3) := by decide +kernel
theorem dX10_begin_29 : decode cX10_begin 29 = .ok (.goto (-27), 3) := by decide +kernel
theorem dX10_begin_32 : decode cX10_begin 32 = .ok (.aload_n 0, 1) := by decide +kernel
theorem dX10_begin_33 : decode cX10_begin 33 = .ok (.lconst 0, 1) := by decide +kernel
theorem dX10_begin_34 : decode cX10_begin 34 = .ok (.putfield 30, 3) := by decide +kernel
theorem dX10_begin_37 : decode cX10_begin 37 = .ok (.aload_n 0, 1) := by decide +kernel
theorem dX10_begin_38 : decode cX10_begin 38 = .ok (.iconst (-1), 1) := by decide +kernel
theorem dX10_begin_39 : decode cX10_begin 39 = .ok (.putfield 18, 3) := by decide +kernel
theorem dX10_begin_42 : decode cX10_begin 42 = .ok (.return_, 1) := by decide +kernel
theorem dX10_copy_0 : decode cX10_copy 0 = .ok (.aload_n 1, 1) := by decide +kernel
theorem dX10_copy_1 : decode cX10_copy 1 = .ok (.getfield 9, 3) := by decide +kernel
theorem dX10_copy_4 : decode cX10_copy 4 = .ok (.iconst 0, 1) := by decide +kernel
theorem dX10_copy_5 : decode cX10_copy 5 = .ok (.aload_n 0, 1) := by decide +kernel
theorem dX10_copy_6 : decode cX10_copy 6 = .ok (.getfield 9, 3) := by decide +kernel
theorem dX10_copy_9 : decode cX10_copy 9 = .ok (.iconst 0, 1) := by decide +kernel
theorem dX10_copy_10 : decode cX10_copy 10 = .ok (.iconst 5, 1) := by decide +kernel
theorem dX10_copy_11 : decode cX10_copy 11 = .ok (.invokestatic 34, 3) := by decide +kernel
theorem dX10_copy_14 : decode cX10_copy 14 = .ok (.aload_n 0, 1) := by decide +kernel
theorem dX10_copy_15 : decode cX10_copy 15 = .ok (.aload_n 1, 1) := by decide +kernel
theorem dX10_copy_16 : decode cX10_copy 16 = .ok (.getfield 30, 3) := by decide +kernel
theorem dX10_copy_19 : decode cX10_copy 19 = .ok (.putfield 30, 3) := by decide +kernel
theorem dX10_copy_22 : decode cX10_copy 22 = .ok (.aload_n 0, 1) := by decide +kernel
theorem dX10_copy_23 : decode cX10_copy 23 = .ok (.aload_n 1, 1) := by decide +kernel
theorem dX10_copy_24 : decode cX10_copy 24 = .ok (.getfield 18, 3) := by decide +kernel
theorem dX10_copy_27 : decode cX10_copy 27 = .ok (.putfield 18, 3) := by decide +kernel
theorem dX10_copy_30 : decode cX10_copy 30 = .ok (.return_, 1) := by decide +kernel
theorem dX10_reached_0 : decode cX10_reached 0 = .ok (.aload_n 0, 1) := by decide +kernel
theorem dX10_reached_1 : decode cX10_reached 1 = .ok (.getfield 30, 3) := by decide +kernel
theorem dX10_reached_4 : decode cX10_reached 4 = .ok (.aload_n 0, 1) := by decide +kernel
theorem dX10_reached_5 : decode cX10_reached 5 = .ok (.invokevirtual 40, 3) := by decide +kernel
theorem dX10_reached_8 : decode cX10_reached 8 = .ok (.lor, 1) := by decide +kernel
theorem dX10_reached_9 : decode cX10_reached 9 = .ok (.lreturn, 1) := by decide +kernel
theorem dX10_here_0 : decode cX10_here 0 = .ok (.aload_n 0, 1) := by decide +kernel
theorem dX10_here_1 : decode cX10_here 1 = .ok (.getfield 9, 3) := by decide +kernel
theorem dX10_here_4 : decode cX10_here 4 = .ok (.iconst 0, 1) := by decide +kernel
theorem dX10_here_5 : decode cX10_here 5 = .ok (.laload, 1) := by decide +kernel
theorem dX10_here_6 : decode cX10_here 6 = .ok (.aload_n 0, 1) := by decide +kernel
theorem dX10_here_7 : decode cX10_here 7 = .ok (.getfield 9, 3) := by decide +kernel
theorem dX10_here_10 : decode cX10_here 10 = .ok (.iconst 1, 1) := by decide +kernel
theorem dX10_here_11 : decode cX10_here 11 = .ok (.laload, 1) := by decide +kernel
theorem dX10_here_12 : decode cX10_here 12 = .ok (.lor, 1) := by decide +kernel
theorem dX10_here_13 : decode cX10_here 13 = .ok (.aload_n 0, 1) := by decide +kernel
theorem dX10_here_14 : decode cX10_here 14 = .ok (.getfield 9, 3) := by decide +kernel
theorem dX10_here_17 : decode cX10_here 17 = .ok (.iconst 2, 1) := by decide +kernel
theorem dX10_here_18 : decode cX10_here 18 = .ok (.laload, 1) := by decide +kernel
theorem dX10_here_19 : decode cX10_here 19 = .ok (.lor, 1) := by decide +kernel
theorem dX10_here_20 : decode cX10_here 20 = .ok (.aload_n 0, 1) := by decide +kernel
theorem dX10_here_21 : decode cX10_here 21 = .ok (.getfield 9, 3) := by decide +kernel
theorem dX10_here_24 : decode cX10_here 24 = .ok (.iconst 3, 1) := by decide +kernel
theorem dX10_here_25 : decode cX10_here 25 = .ok (.laload, 1) := by decide +kernel
theorem dX10_here_26 : decode cX10_here 26 = .ok (.lor, 1) := by decide +kernel
theorem dX10_here_27 : decode cX10_here 27 = .ok (.aload_n 0, 1) := by decide +kernel
theorem dX10_here_28 : decode cX10_here 28 = .ok (.getfield 9, 3) := by decide +kernel
theorem dX10_here_31 : decode cX10_here 31 = .ok (.iconst 4, 1) := by decide +kernel
theorem dX10_here_32 : decode cX10_here 32 = .ok (.laload, 1) := by decide +kernel
theorem dX10_here_33 : decode cX10_here 33 = .ok (.lor, 1) := by decide +kernel
theorem dX10_here_34 : decode cX10_here 34 = .ok (.lreturn, 1) := by decide +kernel
theorem dX10_endsFrom_0 : decode cX10_endsFrom 0 = .ok (.aload_n 0, 1) := by decide +kernel
theorem dX10_endsFrom_1 : decode cX10_endsFrom 1 = .ok (.iconst 4, 1) := by decide +kernel
theorem dX10_endsFrom_2 : decode cX10_endsFrom 2 = .ok (.iload_n 2, 1) := by decide +kernel
theorem dX10_endsFrom_3 : decode cX10_endsFrom 3 = .ok (.invokevirtual 44, 3) := by decide +kernel
theorem dX10_endsFrom_6 : decode cX10_endsFrom 6 = .ok (.iconst 0, 1) := by decide +kernel
theorem dX10_endsFrom_7 : decode cX10_endsFrom 7 = .ok (.istore 7, 2) := by decide +kernel
theorem dX10_endsFrom_9 : decode cX10_endsFrom 9 = .ok (.iload 7, 2) := by decide +kernel
theorem dX10_endsFrom_11 : decode cX10_endsFrom 11 = .ok (.lload_n 3, 1) := by decide +kernel
theorem dX10_endsFrom_12 : decode cX10_endsFrom 12 = .ok (.invokestatic 48, 3) := by decide +kernel
theorem dX10_endsFrom_15 : decode cX10_endsFrom 15 = .ok (.if_icmp .ge 95, 3) := by decide +kernel
theorem dX10_endsFrom_18 : decode cX10_endsFrom 18 = .ok (.lload_n 3, 1) := by decide +kernel
theorem dX10_endsFrom_19 : decode cX10_endsFrom 19 = .ok (.iload 7, 2) := by decide +kernel
theorem dX10_endsFrom_21 : decode cX10_endsFrom 21 = .ok (.invokestatic 52, 3) := by decide +kernel
theorem dX10_endsFrom_24 : decode cX10_endsFrom 24 = .ok (.istore 8, 2) := by decide +kernel
theorem dX10_endsFrom_26 : decode cX10_endsFrom 26 = .ok (.iload 8, 2) := by decide +kernel
theorem dX10_endsFrom_28 : decode cX10_endsFrom 28 = .ok (.bipush 10, 2) := by decide +kernel
theorem dX10_endsFrom_30 : decode cX10_endsFrom 30 = .ok (.if_icmp .eq 13, 3) := by decide +kernel
theorem dX10_endsFrom_33 : decode cX10_endsFrom 33 = .ok (.aload_n 0, 1) := by decide +kernel
theorem dX10_endsFrom_34 : decode cX10_endsFrom 34 = .ok (.aload_n 1, 1) := by decide +kernel
theorem dX10_endsFrom_35 : decode cX10_endsFrom 35 = .ok (.iload 8, 2) := by decide +kernel
theorem dX10_endsFrom_37 : decode cX10_endsFrom 37 = .ok (.invokevirtual 56, 3) := by decide +kernel
theorem dX10_endsFrom_40 : decode cX10_endsFrom 40 = .ok (.goto 64, 3) := by decide +kernel
theorem dX10_endsFrom_43 : decode cX10_endsFrom 43 = .ok (.aload_n 0, 1) := by decide +kernel
theorem dX10_endsFrom_44 : decode cX10_endsFrom 44 = .ok (.getfield 18, 3) := by decide +kernel
theorem dX10_endsFrom_47 : decode cX10_endsFrom 47 = .ok (.bipush 7, 2) := by decide +kernel
theorem dX10_endsFrom_49 : decode cX10_endsFrom 49 = .ok (.if_icmp .ne 20, 3) := by decide +kernel
theorem dX10_endsFrom_52 : decode cX10_endsFrom 52 = .ok (.aload_n 0, 1) := by decide +kernel
theorem dX10_endsFrom_53 : decode cX10_endsFrom 53 = .ok (.getfield 22, 3) := by decide +kernel
theorem dX10_endsFrom_56 : decode cX10_endsFrom 56 = .ok (.ifnull 13, 3) := by decide +kernel
theorem dX10_endsFrom_59 : decode cX10_endsFrom 59 = .ok (.aload_n 0, 1) := by decide +kernel
theorem dX10_endsFrom_60 : decode cX10_endsFrom 60 = .ok (.aload_n 1, 1) := by decide +kernel
theorem dX10_endsFrom_61 : decode cX10_endsFrom 61 = .ok (.lload 5, 2) := by decide +kernel
theorem dX10_endsFrom_63 : decode cX10_endsFrom 63 = .ok (.invokevirtual 60, 3) := by decide +kernel
theorem dX10_endsFrom_66 : decode cX10_endsFrom 66 = .ok (.goto 38, 3) := by decide +kernel
theorem dX10_endsFrom_69 : decode cX10_endsFrom 69 = .ok (.aload_n 0, 1) := by decide +kernel
theorem dX10_endsFrom_70 : decode cX10_endsFrom 70 = .ok (.getfield 18, 3) := by decide +kernel
theorem dX10_endsFrom_73 : decode cX10_endsFrom 73 = .ok (.bipush 6, 2) := by decide +kernel
theorem dX10_endsFrom_75 : decode cX10_endsFrom 75 = .ok (.if_icmp .ne 7, 3) := by decide +kernel
theorem dX10_endsFrom_78 : decode cX10_endsFrom 78 = .ok (.iconst 1, 1) := by decide +kernel
theorem dX10_endsFrom_79 : decode cX10_endsFrom 79 = .ok (.goto 4, 3) := by decide +kernel
theorem dX10_endsFrom_82 : decode cX10_endsFrom 82 = .ok (.iconst 0, 1) := by decide +kernel
theorem dX10_endsFrom_83 : decode cX10_endsFrom 83 = .ok (.istore 9, 2) := by decide +kernel
theorem dX10_endsFrom_85 : decode cX10_endsFrom 85 = .ok (.aload_n 0, 1) := by decide +kernel
theorem dX10_endsFrom_86 : decode cX10_endsFrom 86 = .ok (.aload_n 1, 1) := by decide +kernel
theorem dX10_endsFrom_87 : decode cX10_endsFrom 87 = .ok (.lload 5, 2) := by decide +kernel
theorem dX10_endsFrom_89 : decode cX10_endsFrom 89 = .ok (.invokevirtual 64, 3) := by decide +kernel
theorem dX10_endsFrom_92 : decode cX10_endsFrom 92 = .ok (.iload 9, 2) := by decide +kernel
theorem dX10_endsFrom_94 : decode cX10_endsFrom 94 = .ok (.ifCond .eq 10, 3) := by decide +kernel
theorem dX10_endsFrom_97 : decode cX10_endsFrom 97 = .ok (.aload_n 0, 1) := by decide +kernel
theorem dX10_endsFrom_98 : decode cX10_endsFrom 98 = .ok (.aload_n 1, 1) := by decide +kernel
theorem dX10_endsFrom_99 : decode cX10_endsFrom 99 = .ok (.lload 5, 2) := by decide +kernel
theorem dX10_endsFrom_101 : decode cX10_endsFrom 101 = .ok (.invokevirtual 64, 3) := by decide +kernel
theorem dX10_endsFrom_104 : decode cX10_endsFrom 104 = .ok (.iinc 7 1, 3) := by decide +kernel
theorem dX10_endsFrom_107 : decode cX10_endsFrom 107 = .ok (.goto (-98), 3) := by decide +kernel
theorem dX10_endsFrom_110 : decode cX10_endsFrom 110 = .ok (.aload_n 0, 1) := by decide +kernel
theorem dX10_endsFrom_111 : decode cX10_endsFrom 111 = .ok (.invokevirtual 67, 3) := by decide +kernel
theorem dX10_endsFrom_114 : decode cX10_endsFrom 114 = .ok (.lreturn, 1) := by decide +kernel
theorem dX10_addAll_0 : decode cX10_addAll 0 = .ok (.aload_n 0, 1) := by decide +kernel
theorem dX10_addAll_1 : decode cX10_addAll 1 = .ok (.iconst (-1), 1) := by decide +kernel
theorem dX10_addAll_2 : decode cX10_addAll 2 = .ok (.putfield 18, 3) := by decide +kernel
theorem dX10_addAll_5 : decode cX10_addAll 5 = .ok (.iconst 0, 1) := by decide +kernel
theorem dX10_addAll_6 : decode cX10_addAll 6 = .ok (.istore 4, 2) := by decide +kernel
theorem dX10_addAll_8 : decode cX10_addAll 8 = .ok (.iload 4, 2) := by decide +kernel
theorem dX10_addAll_10 : decode cX10_addAll 10 = .ok (.lload_n 2, 1) := by decide +kernel
theorem dX10_addAll_11 : decode cX10_addAll 11 = .ok (.invokestatic 48, 3) := by decide +kernel
theorem dX10_addAll_14 : decode cX10_addAll 14 = .ok (.if_icmp .ge 20, 3) := by decide +kernel
theorem dX10_addAll_17 : decode cX10_addAll 17 = .ok (.aload_n 0, 1) := by decide +kernel
theorem dX10_addAll_18 : decode cX10_addAll 18 = .ok (.aload_n 1, 1) := by decide +kernel
theorem dX10_addAll_19 : decode cX10_addAll 19 = .ok (.lload_n 2, 1) := by decide +kernel
theorem dX10_addAll_20 : decode cX10_addAll 20 = .ok (.iload 4, 2) := by decide +kernel
theorem dX10_addAll_22 : decode cX10_addAll 22 = .ok (.invokestatic 52, 3) := by decide +kernel
theorem dX10_addAll_25 : decode cX10_addAll 25 = .ok (.invokevirtual 56, 3) := by decide +kernel
theorem dX10_addAll_28 : decode cX10_addAll 28 = .ok (.iinc 4 1, 3) := by decide +kernel
theorem dX10_addAll_31 : decode cX10_addAll 31 = .ok (.goto (-23), 3) := by decide +kernel
theorem dX10_addAll_34 : decode cX10_addAll 34 = .ok (.aload_n 0, 1) := by decide +kernel
theorem dX10_addAll_35 : decode cX10_addAll 35 = .ok (.iconst (-1), 1) := by decide +kernel
theorem dX10_addAll_36 : decode cX10_addAll 36 = .ok (.putfield 18, 3) := by decide +kernel
theorem dX10_addAll_39 : decode cX10_addAll 39 = .ok (.return_, 1) := by decide +kernel
theorem dX10_addQuoteIfCan_0 : decode cX10_addQuoteIfCan 0 = .ok (.iconst 0, 1) := by decide +kernel
theorem dX10_addQuoteIfCan_1 : decode cX10_addQuoteIfCan 1 = .ok (.istore 4, 2) := by decide +kernel
theorem dX10_addQuoteIfCan_3 : decode cX10_addQuoteIfCan 3 = .ok (.iload 4, 2) := by decide +kernel
theorem dX10_addQuoteIfCan_5 : decode cX10_addQuoteIfCan 5 = .ok (.iconst 5, 1) := by decide +kernel
theorem dX10_addQuoteIfCan_6 : decode cX10_addQuoteIfCan 6 = .ok (.if_icmp .ge 17, 3) := by decide +kernel
theorem dX10_addQuoteIfCan_9 : decode cX10_addQuoteIfCan 9 = .ok (.aload_n 0, 1) := by decide +kernel
theorem dX10_addQuoteIfCan_10 : decode cX10_addQuoteIfCan 10 = .ok (.getfield 15, 3) := by decide +kernel
theorem dX10_addQuoteIfCan_13 : decode cX10_addQuoteIfCan 13 = .ok (.iload 4, 2) := by decide +kernel
theorem dX10_addQuoteIfCan_15 : decode cX10_addQuoteIfCan 15 = .ok (.lconst 0, 1) := by decide +kernel
theorem dX10_addQuoteIfCan_16 : decode cX10_addQuoteIfCan 16 = .ok (.lastore, 1) := by decide +kernel
theorem dX10_addQuoteIfCan_17 : decode cX10_addQuoteIfCan 17 = .ok (.iinc 4 1, 3) := by decide +kernel
theorem dX10_addQuoteIfCan_20 : decode cX10_addQuoteIfCan 20 = .ok (.goto (-17), 3) := by decide +kernel
theorem dX10_addQuoteIfCan_23 : decode cX10_addQuoteIfCan 23 = .ok (.iconst 0, 1) := by decide +kernel
theorem dX10_addQuoteIfCan_24 : decode cX10_addQuoteIfCan 24 = .ok (.istore 4, 2) := by decide +kernel
theorem dX10_addQuoteIfCan_26 : decode cX10_addQuoteIfCan 26 = .ok (.iload 4, 2) := by decide +kernel
theorem dX10_addQuoteIfCan_28 : decode cX10_addQuoteIfCan 28 = .ok (.iconst 5, 1) := by decide +kernel
theorem dX10_addQuoteIfCan_29 : decode cX10_addQuoteIfCan 29 = .ok (.if_icmp .ge 91, 3) := by decide +kernel
theorem dX10_addQuoteIfCan_32 : decode cX10_addQuoteIfCan 32 = .ok (.iconst 0, 1) := by decide +kernel
theorem dX10_addQuoteIfCan_33 : decode cX10_addQuoteIfCan 33 = .ok (.istore 5, 2) := by decide +kernel
theorem dX10_addQuoteIfCan_35 : decode cX10_addQuoteIfCan 35 = .ok (.iload 5, 2) := by decide +kernel
theorem dX10_addQuoteIfCan_37 : decode cX10_addQuoteIfCan 37 = .ok (.bipush 36, 2) := by decide +kernel
theorem dX10_addQuoteIfCan_39 : decode cX10_addQuoteIfCan 39 = .ok (.if_icmp .ge 75, 3) := by decide +kernel
theorem dX10_addQuoteIfCan_42 : decode cX10_addQuoteIfCan 42 = .ok (.aload_n 0, 1) := by decide +kernel
theorem dX10_addQuoteIfCan_43 : decode cX10_addQuoteIfCan 43 = .ok (.getfield 9, 3) := by decide +kernel
theorem dX10_addQuoteIfCan_46 : decode cX10_addQuoteIfCan 46 = .ok (.iload 4, 2) := by decide +kernel
theorem dX10_addQuoteIfCan_48 : decode cX10_addQuoteIfCan 48 = .ok (.laload, 1) := by decide +kernel
theorem dX10_addQuoteIfCan_49 : decode cX10_addQuoteIfCan 49 = .ok (.iload 5, 2) := by decide +kernel
theorem dX10_addQuoteIfCan_51 : decode cX10_addQuoteIfCan 51 = .ok (.invokestatic 70, 3) := by decide +kernel
theorem dX10_addQuoteIfCan_54 : decode cX10_addQuoteIfCan 54 = .ok (.ifCond .eq 54, 3) := by decide +kernel
theorem dX10_addQuoteIfCan_57 : decode cX10_addQuoteIfCan 57 = .ok (.aload_n 0, 1) := by decide +kernel
theorem dX10_addQuoteIfCan_58 : decode cX10_addQuoteIfCan 58 = .ok (.getfield 22, 3) := by decide +kernel
theorem dX10_addQuoteIfCan_61 : decode cX10_addQuoteIfCan 61 = .ok (.iload 4, 2) := by decide +kernel
theorem dX10_addQuoteIfCan_63 : decode cX10_addQuoteIfCan 63 = .ok (.iload 5, 2) := by decide +kernel
theorem dX10_addQuoteIfCan_65 : decode cX10_addQuoteIfCan 65 = .ok (.invokevirtual 44, 3) := by decide +kernel
theorem dX10_addQuoteIfCan_68 : decode cX10_addQuoteIfCan 68 = .ok (.iconst 0, 1) := by decide +kernel
theorem dX10_addQuoteIfCan_69 : decode cX10_addQuoteIfCan 69 = .ok (.istore 6, 2) := by decide +kernel
theorem dX10_addQuoteIfCan_71 : decode cX10_addQuoteIfCan 71 = .ok (.iload 6, 2) := by decide +kernel
theorem dX10_addQuoteIfCan_73 : decode cX10_addQuoteIfCan 73 = .ok (.lload_n 2, 1) := by decide +kernel
theorem dX10_addQuoteIfCan_74 : decode cX10_addQuoteIfCan 74 = .ok (.invokestatic 48, 3) := by decide +kernel
theorem dX10_addQuoteIfCan_77 : decode cX10_addQuoteIfCan 77 = .ok (.if_icmp .ge 23, 3) := by decide +kernel
theorem dX10_addQuoteIfCan_80 : decode cX10_addQuoteIfCan 80 = .ok (.aload_n 0, 1) := by decide +kernel
theorem dX10_addQuoteIfCan_81 : decode cX10_addQuoteIfCan 81 = .ok (.getfield 22, 3) := by decide +kernel
theorem dX10_addQuoteIfCan_84 : decode cX10_addQuoteIfCan 84 = .ok (.aload_n 1, 1) := by decide +kernel
theorem dX10_addQuoteIfCan_85 : decode cX10_addQuoteIfCan 85 = .ok (.lload_n 2, 1) := by decide +kernel
theorem dX10_addQuoteIfCan_86 : decode cX10_addQuoteIfCan 86 = .ok (.iload 6, 2) := by decide +kernel
theorem dX10_addQuoteIfCan_88 : decode cX10_addQuoteIfCan 88 = .ok (.invokestatic 52, 3) := by decide +kernel
theorem dX10_addQuoteIfCan_91 : decode cX10_addQuoteIfCan 91 = .ok (.invokevirtual 56, 3) := by decide +kernel
theorem dX10_addQuoteIfCan_94 : decode cX10_addQuoteIfCan 94 = .ok (.iinc 6 1, 3) := by decide +kernel
theorem dX10_addQuoteIfCan_97 : decode cX10_addQuoteIfCan 97 = .ok (.goto (-26), 3) := by decide +kernel
theorem dX10_addQuoteIfCan_100 : decode cX10_addQuoteIfCan 100 = .ok (.aload_n 0, 1) := by decide +kernel
theorem dX10_addQuoteIfCan_101 : decode cX10_addQuoteIfCan 101 = .ok (.iload 4, 2) := by decide +kernel
theorem dX10_addQuoteIfCan_103 : decode cX10_addQuoteIfCan 103 = .ok (.iload 5, 2) := by decide +kernel
theorem dX10_addQuoteIfCan_105 : decode cX10_addQuoteIfCan 105 = .ok (.invokevirtual 74, 3) := by decide +kernel
theorem dX10_addQuoteIfCan_108 : decode cX10_addQuoteIfCan 108 = .ok (.iinc 5 1, 3) := by decide +kernel
theorem dX10_addQuoteIfCan_111 : decode cX10_addQuoteIfCan 111 = .ok (.goto (-76), 3) := by decide +kernel
theorem dX10_addQuoteIfCan_114 : decode cX10_addQuoteIfCan 114 = .ok (.iinc 4 1, 3) := by decide +kernel
theorem dX10_addQuoteIfCan_117 : decode cX10_addQuoteIfCan 117 = .ok (.goto (-91), 3) := by decide +kernel
theorem dX10_addQuoteIfCan_120 : decode cX10_addQuoteIfCan 120 = .ok (.aload_n 0, 1) := by decide +kernel
theorem dX10_addQuoteIfCan_121 : decode cX10_addQuoteIfCan 121 = .ok (.getfield 15, 3) := by decide +kernel
theorem dX10_addQuoteIfCan_124 : decode cX10_addQuoteIfCan 124 = .ok (.iconst 0, 1) := by decide +kernel
theorem dX10_addQuoteIfCan_125 : decode cX10_addQuoteIfCan 125 = .ok (.aload_n 0, 1) := by decide +kernel
theorem dX10_addQuoteIfCan_126 : decode cX10_addQuoteIfCan 126 = .ok (.getfield 9, 3) := by decide +kernel
theorem dX10_addQuoteIfCan_129 : decode cX10_addQuoteIfCan 129 = .ok (.iconst 0, 1) := by decide +kernel
theorem dX10_addQuoteIfCan_130 : decode cX10_addQuoteIfCan 130 = .ok (.iconst 5, 1) := by decide +kernel
theorem dX10_addQuoteIfCan_131 : decode cX10_addQuoteIfCan 131 = .ok (.invokestatic 34, 3) := by decide +kernel
theorem dX10_addQuoteIfCan_134 : decode cX10_addQuoteIfCan 134 = .ok (.aload_n 0, 1) := by decide +kernel
theorem dX10_addQuoteIfCan_135 : decode cX10_addQuoteIfCan 135 = .ok (.iconst (-1), 1) := by decide +kernel
theorem dX10_addQuoteIfCan_136 : decode cX10_addQuoteIfCan 136 = .ok (.putfield 18, 3) := by decide +kernel
theorem dX10_addQuoteIfCan_139 : decode cX10_addQuoteIfCan 139 = .ok (.return_, 1) := by decide +kernel
theorem dX10_keepAside_0 : decode cX10_keepAside 0 = .ok (.aload_n 0, 1) := by decide +kernel
theorem dX10_keepAside_1 : decode cX10_keepAside 1 = .ok (.getfield 22, 3) := by decide +kernel
theorem dX10_keepAside_4 : decode cX10_keepAside 4 = .ok (.invokevirtual 67, 3) := by decide +kernel
theorem dX10_keepAside_7 : decode cX10_keepAside 7 = .ok (.lconst 0, 1) := by decide +kernel
theorem dX10_keepAside_8 : decode cX10_keepAside 8 = .ok (.lcmp, 1) := by decide +kernel
theorem dX10_keepAside_9 : decode cX10_keepAside 9 = .ok (.ifCond .ne 16, 3) := by decide +kernel
theorem dX10_keepAside_12 : decode cX10_keepAside 12 = .ok (.aload_n 0, 1) := by decide +kernel
theorem dX10_keepAside_13 : decode cX10_keepAside 13 = .ok (.getfield 15, 3) := by decide +kernel
theorem dX10_keepAside_16 : decode cX10_keepAside 16 = .ok (.iload_n 1, 1) := by decide +kernel
theorem dX10_keepAside_17 : decode cX10_keepAside 17 = .ok (.dup2, 1) := by decide +kernel
theorem dX10_keepAside_18 : decode cX10_keepAside 18 = .ok (.laload, 1) := by decide +kernel
theorem dX10_keepAside_19 : decode cX10_keepAside 19 = .ok (.iload_n 2, 1) := by decide +kernel
theorem dX10_keepAside_20 : decode cX10_keepAside 20 = .ok (.invokestatic 26, 3) := by decide +kernel
theorem dX10_keepAside_23 : decode cX10_keepAside 23 = .ok (.lor, 1) := by decide +kernel
theorem dX10_keepAside_24 : decode cX10_keepAside 24 = .ok (.lastore, 1) := by decide +kernel
theorem dX10_keepAside_25 : decode cX10_keepAside 25 = .ok (.iconst 0, 1) := by decide +kernel
theorem dX10_keepAside_26 : decode cX10_keepAside 26 = .ok (.istore_n 3, 1) := by decide +kernel
theorem dX10_keepAside_27 : decode cX10_keepAside 27 = .ok (.iload_n 3, 1) := by decide +kernel
theorem dX10_keepAside_28 : decode cX10_keepAside 28 = .ok (.iconst 5, 1) := by decide +kernel
theorem dX10_keepAside_29 : decode cX10_keepAside 29 = .ok (.if_icmp .ge 27, 3) := by decide +kernel
theorem dX10_keepAside_32 : decode cX10_keepAside 32 = .ok (.aload_n 0, 1) := by decide +kernel
theorem dX10_keepAside_33 : decode cX10_keepAside 33 = .ok (.getfield 15, 3) := by decide +kernel
theorem dX10_keepAside_36 : decode cX10_keepAside 36 = .ok (.iload_n 3, 1) := by decide +kernel
theorem dX10_keepAside_37 : decode cX10_keepAside 37 = .ok (.dup2, 1) := by decide +kernel
theorem dX10_keepAside_38 : decode cX10_keepAside 38 = .ok (.laload, 1) := by decide +kernel
theorem dX10_keepAside_39 : decode cX10_keepAside 39 = .ok (.aload_n 0, 1) := by decide +kernel
theorem dX10_keepAside_40 : decode cX10_keepAside 40 = .ok (.getfield 22, 3) := by decide +kernel
theorem dX10_keepAside_43 : decode cX10_keepAside 43 = .ok (.getfield 9, 3) := by decide +kernel
theorem dX10_keepAside_46 : decode cX10_keepAside 46 = .ok (.iload_n 3, 1) := by decide +kernel
theorem dX10_keepAside_47 : decode cX10_keepAside 47 = .ok (.laload, 1) := by decide +kernel
theorem dX10_keepAside_48 : decode cX10_keepAside 48 = .ok (.lor, 1) := by decide +kernel
theorem dX10_keepAside_49 : decode cX10_keepAside 49 = .ok (.lastore, 1) := by decide +kernel
theorem dX10_keepAside_50 : decode cX10_keepAside 50 = .ok (.iinc 3 1, 3) := by decide +kernel
theorem dX10_keepAside_53 : decode cX10_keepAside 53 = .ok (.goto (-26), 3) := by decide +kernel
theorem dX10_keepAside_56 : decode cX10_keepAside 56 = .ok (.aload_n 0, 1) := by decide +kernel
theorem dX10_keepAside_57 : decode cX10_keepAside 57 = .ok (.dup, 1) := by decide +kernel
theorem dX10_keepAside_58 : decode cX10_keepAside 58 = .ok (.getfield 30, 3) := by decide +kernel
theorem dX10_keepAside_61 : decode cX10_keepAside 61 = .ok (.aload_n 0, 1) := by decide +kernel
theorem dX10_keepAside_62 : decode cX10_keepAside 62 = .ok (.getfield 22, 3) := by decide +kernel
theorem dX10_keepAside_65 : decode cX10_keepAside 65 = .ok (.getfield 30, 3) := by decide +kernel
theorem dX10_keepAside_68 : decode cX10_keepAside 68 = .ok (.lor, 1) := by decide +kernel
theorem dX10_keepAside_69 : decode cX10_keepAside 69 = .ok (.putfield 30, 3) := by decide +kernel
theorem dX10_keepAside_72 : decode cX10_keepAside 72 = .ok (.return_, 1) := by decide +kernel
theorem dX10_add_0 : decode cX10_add 0 = .ok (.aload_n 0, 1) := by decide +kernel
theorem dX10_add_1 : decode cX10_add 1 = .ok (.getfield 18, 3) := by decide +kernel
theorem dX10_add_4 : decode cX10_add 4 = .ok (.istore_n 3, 1) := by decide +kernel
theorem dX10_add_5 : decode cX10_add 5 = .ok (.iload_n 2, 1) := by decide +kernel
theorem dX10_add_6 : decode cX10_add 6 = .ok (.bipush 6, 2) := by decide +kernel
theorem dX10_add_8 : decode cX10_add 8 = .ok (.if_icmp .eq 9, 3) := by decide +kernel
theorem dX10_add_11 : decode cX10_add 11 = .ok (.iload_n 2, 1) := by decide +kernel
theorem dX10_add_12 : decode cX10_add 12 = .ok (.bipush 7, 2) := by decide +kernel
theorem dX10_add_14 : decode cX10_add 14 = .ok (.if_icmp .ne 7, 3) := by decide +kernel
theorem dX10_add_17 : decode cX10_add 17 = .ok (.iconst 1, 1) := by decide +kernel
theorem dX10_add_18 : decode cX10_add 18 = .ok (.goto 4, 3) := by decide +kernel
theorem dX10_add_21 : decode cX10_add 21 = .ok (.iconst 0, 1) := by decide +kernel
theorem dX10_add_22 : decode cX10_add 22 = .ok (.istore 4, 2) := by decide +kernel
theorem dX10_add_24 : decode cX10_add 24 = .ok (.aload_n 0, 1) := by decide +kernel
theorem dX10_add_25 : decode cX10_add 25 = .ok (.iload 4, 2) := by decide +kernel
theorem dX10_add_27 : decode cX10_add 27 = .ok (.ifCond .eq 7, 3) := by decide +kernel
theorem dX10_add_30 : decode cX10_add 30 = .ok (.iload_n 2, 1) := by decide +kernel
theorem dX10_add_31 : decode cX10_add 31 = .ok (.goto 4, 3) := by decide +kernel
theorem dX10_add_34 : decode cX10_add 34 = .ok (.iconst (-1), 1) := by decide +kernel
theorem dX10_add_35 : decode cX10_add 35 = .ok (.putfield 18, 3) := by decide +kernel
theorem dX10_add_38 : decode cX10_add 38 = .ok (.iload 4, 2) := by decide +kernel
theorem dX10_add_40 : decode cX10_add 40 = .ok (.ifCond .ne 9, 3) := by decide +kernel
theorem dX10_add_43 : decode cX10_add 43 = .ok (.iload_n 2, 1) := by decide +kernel
theorem dX10_add_44 : decode cX10_add 44 = .ok (.bipush 10, 2) := by decide +kernel
theorem dX10_add_46 : decode cX10_add 46 = .ok (.if_icmp .ne 4, 3) := by decide +kernel
theorem dX10_add_49 : decode cX10_add 49 = .ok (.return_, 1) := by decide +kernel
theorem dX10_add_50 : decode cX10_add 50 = .ok (.iload_n 3, 1) := by decide +kernel
theorem dX10_add_51 : decode cX10_add 51 = .ok (.bipush 7, 2) := by decide +kernel
theorem dX10_add_53 : decode cX10_add 53 = .ok (.if_icmp .ne 9, 3) := by decide +kernel
theorem dX10_add_56 : decode cX10_add 56 = .ok (.aload_n 0, 1) := by decide +kernel
theorem dX10_add_57 : decode cX10_add 57 = .ok (.aload_n 1, 1) := by decide +kernel
theorem dX10_add_58 : decode cX10_add 58 = .ok (.iload_n 2, 1) := by decide +kernel
theorem dX10_add_59 : decode cX10_add 59 = .ok (.invokevirtual 77, 3) := by decide +kernel
theorem dX10_add_62 : decode cX10_add 62 = .ok (.iload_n 3, 1) := by decide +kernel
theorem dX10_add_63 : decode cX10_add 63 = .ok (.bipush 6, 2) := by decide +kernel
theorem dX10_add_65 : decode cX10_add 65 = .ok (.if_icmp .ne 7, 3) := by decide +kernel
theorem dX10_add_68 : decode cX10_add 68 = .ok (.iconst 2, 1) := by decide +kernel
theorem dX10_add_69 : decode cX10_add 69 = .ok (.goto 4, 3) := by decide +kernel
theorem dX10_add_72 : decode cX10_add 72 = .ok (.iconst 1, 1) := by decide +kernel
theorem dX10_add_73 : decode cX10_add 73 = .ok (.istore 5, 2) := by decide +kernel
theorem dX10_add_75 : decode cX10_add 75 = .ok (.iconst 0, 1) := by decide +kernel
theorem dX10_add_76 : decode cX10_add 76 = .ok (.istore 6, 2) := by decide +kernel
theorem dX10_add_78 : decode cX10_add 78 = .ok (.iload 6, 2) := by decide +kernel
theorem dX10_add_80 : decode cX10_add 80 = .ok (.iload 5, 2) := by decide +kernel
theorem dX10_add_82 : decode cX10_add 82 = .ok (.if_icmp .ge 61, 3) := by decide +kernel
theorem dX10_add_85 : decode cX10_add 85 = .ok (.iload_n 2, 1) := by decide +kernel
theorem dX10_add_86 : decode cX10_add 86 = .ok (.iconst 4, 1) := by decide +kernel
theorem dX10_add_87 : decode cX10_add 87 = .ok (.if_icmp .gt 12, 3) := by decide +kernel
theorem dX10_add_90 : decode cX10_add 90 = .ok (.aload_n 0, 1) := by decide +kernel
theorem dX10_add_91 : decode cX10_add 91 = .ok (.aload_n 1, 1) := by decide +kernel
theorem dX10_add_92 : decode cX10_add 92 = .ok (.iload_n 2, 1) := by decide +kernel
theorem dX10_add_93 : decode cX10_add 93 = .ok (.invokevirtual 80, 3) := by decide +kernel
theorem dX10_add_96 : decode cX10_add 96 = .ok (.goto 41, 3) := by decide +kernel
theorem dX10_add_99 : decode cX10_add 99 = .ok (.iload_n 2, 1) := by decide +kernel
theorem dX10_add_100 : decode cX10_add 100 = .ok (.iconst 5, 1) := by decide +kernel
theorem dX10_add_101 : decode cX10_add 101 = .ok (.if_icmp .ne 11, 3) := by decide +kernel
theorem dX10_add_104 : decode cX10_add 104 = .ok (.aload_n 0, 1) := by decide +kernel
theorem dX10_add_105 : decode cX10_add 105 = .ok (.aload_n 1, 1) := by decide +kernel
theorem dX10_add_106 : decode cX10_add 106 = .ok (.invokevirtual 83, 3) := by decide +kernel
theorem dX10_add_109 : decode cX10_add 109 = .ok (.goto 28, 3) := by decide +kernel
theorem dX10_add_112 : decode cX10_add 112 = .ok (.aload_n 0, 1) := by decide +kernel
theorem dX10_add_113 : decode cX10_add 113 = .ok (.iload_n 2, 1) := by decide +kernel
theorem dX10_add_114 : decode cX10_add 114 = .ok (.bipush 8, 2) := by decide +kernel
theorem dX10_add_116 : decode cX10_add 116 = .ok (.if_icmp .ne 10, 3) := by decide +kernel
theorem dX10_add_119 : decode cX10_add 119 = .ok (.aload_n 1, 1) := by decide +kernel
theorem dX10_add_120 : decode cX10_add 120 = .ok (.getfield 87, 3) := by decide +kernel
theorem dX10_add_123 : decode cX10_add 123 = .ok (.goto 11, 3) := by decide +kernel
theorem dX10_add_126 : decode cX10_add 126 = .ok (.aload_n 1, 1) := by decide +kernel
theorem dX10_add_127 : decode cX10_add 127 = .ok (.getfield 87, 3) := by decide +kernel
theorem dX10_add_130 : decode cX10_add 130 = .ok (.ldc2_w 92, 3) := by decide +kernel
theorem dX10_add_133 : decode cX10_add 133 = .ok (.lxor, 1) := by decide +kernel
theorem dX10_add_134 : decode cX10_add 134 = .ok (.invokevirtual 94, 3) := by decide +kernel
theorem dX10_add_137 : decode cX10_add 137 = .ok (.iinc 6 1, 3) := by decide +kernel
theorem dX10_add_140 : decode cX10_add 140 = .ok (.goto (-62), 3) := by decide +kernel
theorem dX10_add_143 : decode cX10_add 143 = .ok (.iconst 0, 1) := by decide +kernel
theorem dX10_add_144 : decode cX10_add 144 = .ok (.istore 6, 2) := by decide +kernel
theorem dX10_add_146 : decode cX10_add 146 = .ok (.iload 6, 2) := by decide +kernel
theorem dX10_add_148 : decode cX10_add 148 = .ok (.iconst 5, 1) := by decide +kernel
theorem dX10_add_149 : decode cX10_add 149 = .ok (.if_icmp .ge 32, 3) := by decide +kernel
theorem dX10_add_152 : decode cX10_add 152 = .ok (.iload_n 3, 1) := by decide +kernel
theorem dX10_add_153 : decode cX10_add 153 = .ok (.bipush 7, 2) := by decide +kernel
theorem dX10_add_155 : decode cX10_add 155 = .ok (.if_icmp .ne 26, 3) := by decide +kernel
theorem dX10_add_158 : decode cX10_add 158 = .ok (.aload_n 0, 1) := by decide +kernel
theorem dX10_add_159 : decode cX10_add 159 = .ok (.getfield 9, 3) := by decide +kernel
theorem dX10_add_162 : decode cX10_add 162 = .ok (.iload 6, 2) := by decide +kernel
theorem dX10_add_164 : decode cX10_add 164 = .ok (.dup2, 1) := by decide +kernel
theorem dX10_add_165 : decode cX10_add 165 = .ok (.laload, 1) := by decide +kernel
theorem dX10_add_166 : decode cX10_add 166 = .ok (.aload_n 0, 1) := by decide +kernel
theorem dX10_add_167 : decode cX10_add 167 = .ok (.getfield 15, 3) := by decide +kernel
theorem dX10_add_170 : decode cX10_add 170 = .ok (.iload 6, 2) := by decide +kernel
theorem dX10_add_172 : decode cX10_add 172 = .ok (.laload, 1) := by decide +kernel
theorem dX10_add_173 : decode cX10_add 173 = .ok (.lor, 1) := by decide +kernel
theorem dX10_add_174 : decode cX10_add 174 = .ok (.lastore, 1) := by decide +kernel
theorem dX10_add_175 : decode cX10_add 175 = .ok (.iinc 6 1, 3) := by decide +kernel
theorem dX10_add_178 : decode cX10_add 178 = .ok (.goto (-32), 3) := by decide +kernel
theorem dX10_add_181 : decode cX10_add 181 = .ok (.return_, 1) := by decide +kernel
theorem dX10_setAside_0 : decode cX10_setAside 0 = .ok (.iconst 0, 1) := by decide +kernel
theorem dX10_setAside_1 : decode cX10_setAside 1 = .ok (.istore_n 3, 1) := by decide +kernel
theorem dX10_setAside_2 : decode cX10_setAside 2 = .ok (.iload_n 3, 1) := by decide +kernel
theorem dX10_setAside_3 : decode cX10_setAside 3 = .ok (.iconst 5, 1) := by decide +kernel
theorem dX10_setAside_4 : decode cX10_setAside 4 = .ok (.if_icmp .ge 140, 3) := by decide +kernel
theorem dX10_setAside_7 : decode cX10_setAside 7 = .ok (.iload_n 2, 1) := by decide +kernel
theorem dX10_setAside_8 : decode cX10_setAside 8 = .ok (.iconst 4, 1) := by decide +kernel
theorem dX10_setAside_9 : decode cX10_setAside 9 = .ok (.if_icmp .ge 14, 3) := by decide +kernel
theorem dX10_setAside_12 : decode cX10_setAside 12 = .ok (.aload_n 1, 1) := by decide +kernel
theorem dX10_setAside_13 : decode cX10_setAside 13 = .ok (.getfield 98, 3) := by decide +kernel
theorem dX10_setAside_16 : decode cX10_setAside 16 = .ok (.iload_n 2, 1) := by decide +kernel
theorem dX10_setAside_17 : decode cX10_setAside 17 = .ok (.laload, 1) := by decide +kernel
theorem dX10_setAside_18 : decode cX10_setAside 18 = .ok (.lstore 4, 2) := by decide +kernel
theorem dX10_setAside_20 : decode cX10_setAside 20 = .ok (.goto 88, 3) := by decide +kernel
theorem dX10_setAside_23 : decode cX10_setAside 23 = .ok (.iload_n 2, 1) := by decide +kernel
theorem dX10_setAside_24 : decode cX10_setAside 24 = .ok (.iconst 4, 1) := by decide +kernel
theorem dX10_setAside_25 : decode cX10_setAside 25 = .ok (.if_icmp .ne 35, 3) := by decide +kernel
theorem dX10_setAside_28 : decode cX10_setAside 28 = .ok (.aload_n 1, 1) := by decide +kernel
theorem dX10_setAside_29 : decode cX10_setAside 29 = .ok (.getfield 98, 3) := by decide +kernel
theorem dX10_setAside_32 : decode cX10_setAside 32 = .ok (.iconst 0, 1) := by decide +kernel
theorem dX10_setAside_33 : decode cX10_setAside 33 = .ok (.laload, 1) := by decide +kernel
theorem dX10_setAside_34 : decode cX10_setAside 34 = .ok (.aload_n 1, 1) := by decide +kernel
theorem dX10_setAside_35 : decode cX10_setAside 35 = .ok (.getfield 98, 3) := by decide +kernel
theorem dX10_setAside_38 : decode cX10_setAside 38 = .ok (.iconst 1, 1) := by decide +kernel
theorem dX10_setAside_39 : decode cX10_setAside 39 = .ok (.laload, 1) := by decide +kernel
theorem dX10_setAside_40 : decode cX10_setAside 40 = .ok (.lor, 1) := by decide +kernel
theorem dX10_setAside_41 : decode cX10_setAside 41 = .ok (.aload_n 1, 1) := by decide +kernel
theorem dX10_setAside_42 : decode cX10_setAside 42 = .ok (.getfield 98, 3) := by decide +kernel
theorem dX10_setAside_45 : decode cX10_setAside 45 = .ok (.iconst 2, 1) := by decide +kernel
theorem dX10_setAside_46 : decode cX10_setAside 46 = .ok (.laload, 1) := by decide +kernel
theorem dX10_setAside_47 : decode cX10_setAside 47 = .ok (.lor, 1) := by decide +kernel
theorem dX10_setAside_48 : decode cX10_setAside 48 = .ok (.aload_n 1, 1) := by decide +kernel
theorem dX10_setAside_49 : decode cX10_setAside 49 = .ok (.getfield 98, 3) := by decide +kernel
theorem dX10_setAside_52 : decode cX10_setAside 52 = .ok (.iconst 3, 1) := by decide +kernel
theorem dX10_setAside_53 : decode cX10_setAside 53 = .ok (.laload, 1) := by decide +kernel
theorem dX10_setAside_54 : decode cX10_setAside 54 = .ok (.lor, 1) := by decide +kernel
theorem dX10_setAside_55 : decode cX10_setAside 55 = .ok (.lstore 4, 2) := by decide +kernel
theorem dX10_setAside_57 : decode cX10_setAside 57 = .ok (.goto 51, 3) := by decide +kernel
theorem dX10_setAside_60 : decode cX10_setAside 60 = .ok (.iload_n 2, 1) := by decide +kernel
theorem dX10_setAside_61 : decode cX10_setAside 61 = .ok (.iconst 5, 1) := by decide +kernel
theorem dX10_setAside_62 : decode cX10_setAside 62 = .ok (.if_icmp .ne 23, 3) := by decide +kernel
theorem dX10_setAside_65 : decode cX10_setAside 65 = .ok (.iload_n 3, 1) := by decide +kernel
theorem dX10_setAside_66 : decode cX10_setAside 66 = .ok (.iconst 4, 1) := by decide +kernel
theorem dX10_setAside_67 : decode cX10_setAside 67 = .ok (.if_icmp .ne 7, 3) := by decide +kernel
theorem dX10_setAside_70 : decode cX10_setAside 70 = .ok (.lconst 0, 1) := by decide +kernel
theorem dX10_setAside_71 : decode cX10_setAside 71 = .ok (.goto 9, 3) := by decide +kernel
theorem dX10_setAside_74 : decode cX10_setAside 74 = .ok (.aload_n 0, 1) := by decide +kernel
theorem dX10_setAside_75 : decode cX10_setAside 75 = .ok (.getfield 9, 3) := by decide +kernel
theorem dX10_setAside_78 : decode cX10_setAside 78 = .ok (.iload_n 3, 1) := by decide +kernel
theorem dX10_setAside_79 : decode cX10_setAside 79 = .ok (.laload, 1) := by decide +kernel
theorem dX10_setAside_80 : decode cX10_setAside 80 = .ok (.lstore 4, 2) := by decide +kernel
theorem dX10_setAside_82 : decode cX10_setAside 82 = .ok (.goto 26, 3) := by decide +kernel
theorem dX10_setAside_85 : decode cX10_setAside 85 = .ok (.iload_n 2, 1) := by decide +kernel
theorem dX10_setAside_86 : decode cX10_setAside 86 = .ok (.bipush 8, 2) := by decide +kernel
theorem dX10_setAside_88 : decode cX10_setAside 88 = .ok (.if_icmp .ne 10, 3) := by decide +kernel
theorem dX10_setAside_91 : decode cX10_setAside 91 = .ok (.aload_n 1, 1) := by decide +kernel
theorem dX10_setAside_92 : decode cX10_setAside 92 = .ok (.getfield 87, 3) := by decide +kernel
theorem dX10_setAside_95 : decode cX10_setAside 95 = .ok (.goto 11, 3) := by decide +kernel
theorem dX10_setAside_98 : decode cX10_setAside 98 = .ok (.aload_n 1, 1) := by decide +kernel
theorem dX10_setAside_99 : decode cX10_setAside 99 = .ok (.getfield 87, 3) := by decide +kernel
theorem dX10_setAside_102 : decode cX10_setAside 102 = .ok (.ldc2_w 92, 3) := by decide +kernel
theorem dX10_setAside_105 : decode cX10_setAside 105 = .ok (.lxor, 1) := by decide +kernel
theorem dX10_setAside_106 : decode cX10_setAside 106 = .ok (.lstore 4, 2) := by decide +kernel
theorem dX10_setAside_108 : decode cX10_setAside 108 = .ok (.aload_n 0, 1) := by decide +kernel
theorem dX10_setAside_109 : decode cX10_setAside 109 = .ok (.getfield 15, 3) := by decide +kernel
theorem dX10_setAside_112 : decode cX10_setAside 112 = .ok (.iload_n 3, 1) := by decide +kernel
theorem dX10_setAside_113 : decode cX10_setAside 113 = .ok (.aload_n 0, 1) := by decide +kernel
theorem dX10_setAside_114 : decode cX10_setAside 114 = .ok (.getfield 9, 3) := by decide +kernel
theorem dX10_setAside_117 : decode cX10_setAside 117 = .ok (.iload_n 3, 1) := by decide +kernel
theorem dX10_setAside_118 : decode cX10_setAside 118 = .ok (.laload, 1) := by decide +kernel
theorem dX10_setAside_119 : decode cX10_setAside 119 = .ok (.lload 4, 2) := by decide +kernel
theorem dX10_setAside_121 : decode cX10_setAside 121 = .ok (.ldc2_w 92, 3) := by decide +kernel
theorem dX10_setAside_124 : decode cX10_setAside 124 = .ok (.lxor, 1) := by decide +kernel
theorem dX10_setAside_125 : decode cX10_setAside 125 = .ok (.land, 1) := by decide +kernel
theorem dX10_setAside_126 : decode cX10_setAside 126 = .ok (.lastore, 1) := by decide +kernel
theorem dX10_setAside_127 : decode cX10_setAside 127 = .ok (.aload_n 0, 1) := by decide +kernel
theorem dX10_setAside_128 : decode cX10_setAside 128 = .ok (.getfield 9, 3) := by decide +kernel
theorem dX10_setAside_131 : decode cX10_setAside 131 = .ok (.iload_n 3, 1) := by decide +kernel
theorem dX10_setAside_132 : decode cX10_setAside 132 = .ok (.dup2, 1) := by decide +kernel
theorem dX10_setAside_133 : decode cX10_setAside 133 = .ok (.laload, 1) := by decide +kernel
theorem dX10_setAside_134 : decode cX10_setAside 134 = .ok (.lload 4, 2) := by decide +kernel
theorem dX10_setAside_136 : decode cX10_setAside 136 = .ok (.land, 1) := by decide +kernel
theorem dX10_setAside_137 : decode cX10_setAside 137 = .ok (.lastore, 1) := by decide +kernel
theorem dX10_setAside_138 : decode cX10_setAside 138 = .ok (.iinc 3 1, 3) := by decide +kernel
theorem dX10_setAside_141 : decode cX10_setAside 141 = .ok (.goto (-139), 3) := by decide +kernel
theorem dX10_setAside_144 : decode cX10_setAside 144 = .ok (.return_, 1) := by decide +kernel
theorem dX10_goSteps_0 : decode cX10_goSteps 0 = .ok (.aload_n 0, 1) := by decide +kernel
theorem dX10_goSteps_1 : decode cX10_goSteps 1 = .ok (.invokevirtual 40, 3) := by decide +kernel
theorem dX10_goSteps_4 : decode cX10_goSteps 4 = .ok (.lstore_n 3, 1) := by decide +kernel
theorem dX10_goSteps_5 : decode cX10_goSteps 5 = .ok (.iconst 0, 1) := by decide +kernel
theorem dX10_goSteps_6 : decode cX10_goSteps 6 = .ok (.istore 5, 2) := by decide +kernel
theorem dX10_goSteps_8 : decode cX10_goSteps 8 = .ok (.iload 5, 2) := by decide +kernel
theorem dX10_goSteps_10 : decode cX10_goSteps 10 = .ok (.iconst 4, 1) := by decide +kernel
theorem dX10_goSteps_11 : decode cX10_goSteps 11 = .ok (.if_icmp .ge 67, 3) := by decide +kernel
theorem dX10_goSteps_14 : decode cX10_goSteps 14 = .ok (.iload_n 2, 1) := by decide +kernel
theorem dX10_goSteps_15 : decode cX10_goSteps 15 = .ok (.iconst 4, 1) := by decide +kernel
theorem dX10_goSteps_16 : decode cX10_goSteps 16 = .ok (.if_icmp .eq 9, 3) := by decide +kernel
theorem dX10_goSteps_19 : decode cX10_goSteps 19 = .ok (.iload_n 2, 1) := by decide +kernel
theorem dX10_goSteps_20 : decode cX10_goSteps 20 = .ok (.iload 5, 2) := by decide +kernel
theorem dX10_goSteps_22 : decode cX10_goSteps 22 = .ok (.if_icmp .ne 13, 3) := by decide +kernel
theorem dX10_goSteps_25 : decode cX10_goSteps 25 = .ok (.aload_n 1, 1) := by decide +kernel
theorem dX10_goSteps_26 : decode cX10_goSteps 26 = .ok (.lload_n 3, 1) := by decide +kernel
theorem dX10_goSteps_27 : decode cX10_goSteps 27 = .ok (.iload 5, 2) := by decide +kernel
theorem dX10_goSteps_29 : decode cX10_goSteps 29 = .ok (.invokevirtual 101, 3) := by decide +kernel
theorem dX10_goSteps_32 : decode cX10_goSteps 32 = .ok (.goto 4, 3) := by decide +kernel
theorem dX10_goSteps_35 : decode cX10_goSteps 35 = .ok (.lconst 0, 1) := by decide +kernel
theorem dX10_goSteps_36 : decode cX10_goSteps 36 = .ok (.lstore 6, 2) := by decide +kernel
theorem dX10_goSteps_38 : decode cX10_goSteps 38 = .ok (.aload_n 0, 1) := by decide +kernel
theorem dX10_goSteps_39 : decode cX10_goSteps 39 = .ok (.dup, 1) := by decide +kernel
theorem dX10_goSteps_40 : decode cX10_goSteps 40 = .ok (.getfield 30, 3) := by decide +kernel
theorem dX10_goSteps_43 : decode cX10_goSteps 43 = .ok (.lload 6, 2) := by decide +kernel
theorem dX10_goSteps_45 : decode cX10_goSteps 45 = .ok (.aload_n 1, 1) := by decide +kernel
theorem dX10_goSteps_46 : decode cX10_goSteps 46 = .ok (.getfield 105, 3) := by decide +kernel
theorem dX10_goSteps_49 : decode cX10_goSteps 49 = .ok (.land, 1) := by decide +kernel
theorem dX10_goSteps_50 : decode cX10_goSteps 50 = .ok (.lor, 1) := by decide +kernel
theorem dX10_goSteps_51 : decode cX10_goSteps 51 = .ok (.putfield 30, 3) := by decide +kernel
theorem dX10_goSteps_54 : decode cX10_goSteps 54 = .ok (.aload_n 0, 1) := by decide +kernel
theorem dX10_goSteps_55 : decode cX10_goSteps 55 = .ok (.getfield 9, 3) := by decide +kernel
theorem dX10_goSteps_58 : decode cX10_goSteps 58 = .ok (.iload 5, 2) := by decide +kernel
theorem dX10_goSteps_60 : decode cX10_goSteps 60 = .ok (.lload 6, 2) := by decide +kernel
theorem dX10_goSteps_62 : decode cX10_goSteps 62 = .ok (.aload_n 1, 1) := by decide +kernel
theorem dX10_goSteps_63 : decode cX10_goSteps 63 = .ok (.getfield 105, 3) := by decide +kernel
theorem dX10_goSteps_66 : decode cX10_goSteps 66 = .ok (.ldc2_w 92, 3) := by decide +kernel
theorem dX10_goSteps_69 : decode cX10_goSteps 69 = .ok (.lxor, 1) := by decide +kernel
theorem dX10_goSteps_70 : decode cX10_goSteps 70 = .ok (.land, 1) := by decide +kernel
theorem dX10_goSteps_71 : decode cX10_goSteps 71 = .ok (.lastore, 1) := by decide +kernel
theorem dX10_goSteps_72 : decode cX10_goSteps 72 = .ok (.iinc 5 1, 3) := by decide +kernel
theorem dX10_goSteps_75 : decode cX10_goSteps 75 = .ok (.goto (-67), 3) := by decide +kernel
theorem dX10_goSteps_78 : decode cX10_goSteps 78 = .ok (.aload_n 0, 1) := by decide +kernel
theorem dX10_goSteps_79 : decode cX10_goSteps 79 = .ok (.getfield 9, 3) := by decide +kernel
theorem dX10_goSteps_82 : decode cX10_goSteps 82 = .ok (.iconst 4, 1) := by decide +kernel
theorem dX10_goSteps_83 : decode cX10_goSteps 83 = .ok (.lconst 0, 1) := by decide +kernel
theorem dX10_goSteps_84 : decode cX10_goSteps 84 = .ok (.lastore, 1) := by decide +kernel
theorem dX10_goSteps_85 : decode cX10_goSteps 85 = .ok (.return_, 1) := by decide +kernel
theorem dX10_goOn_0 : decode cX10_goOn 0 = .ok (.iconst 0, 1) := by decide +kernel
theorem dX10_goOn_1 : decode cX10_goOn 1 = .ok (.istore_n 2, 1) := by decide +kernel
theorem dX10_goOn_2 : decode cX10_goOn 2 = .ok (.iload_n 2, 1) := by decide +kernel
theorem dX10_goOn_3 : decode cX10_goOn 3 = .ok (.iconst 4, 1) := by decide +kernel
theorem dX10_goOn_4 : decode cX10_goOn 4 = .ok (.if_icmp .ge 93, 3) := by decide +kernel
theorem dX10_goOn_7 : decode cX10_goOn 7 = .ok (.aload_n 0, 1) := by decide +kernel
theorem dX10_goOn_8 : decode cX10_goOn 8 = .ok (.getfield 9, 3) := by decide +kernel
theorem dX10_goOn_11 : decode cX10_goOn 11 = .ok (.iload_n 2, 1) := by decide +kernel
theorem dX10_goOn_12 : decode cX10_goOn 12 = .ok (.laload, 1) := by decide +kernel
theorem dX10_goOn_13 : decode cX10_goOn 13 = .ok (.lstore_n 3, 1) := by decide +kernel
theorem dX10_goOn_14 : decode cX10_goOn 14 = .ok (.lconst 0, 1) := by decide +kernel
theorem dX10_goOn_15 : decode cX10_goOn 15 = .ok (.lstore 5, 2) := by decide +kernel
theorem dX10_goOn_17 : decode cX10_goOn 17 = .ok (.iconst 0, 1) := by decide +kernel
theorem dX10_goOn_18 : decode cX10_goOn 18 = .ok (.istore 7, 2) := by decide +kernel
theorem dX10_goOn_20 : decode cX10_goOn 20 = .ok (.iload 7, 2) := by decide +kernel
theorem dX10_goOn_22 : decode cX10_goOn 22 = .ok (.bipush 6, 2) := by decide +kernel
theorem dX10_goOn_24 : decode cX10_goOn 24 = .ok (.if_icmp .ge 59, 3) := by decide +kernel
theorem dX10_goOn_27 : decode cX10_goOn 27 = .ok (.lload 5, 2) := by decide +kernel
theorem dX10_goOn_29 : decode cX10_goOn 29 = .ok (.lload_n 3, 1) := by decide +kernel
theorem dX10_goOn_30 : decode cX10_goOn 30 = .ok (.aload_n 1, 1) := by decide +kernel
theorem dX10_goOn_31 : decode cX10_goOn 31 = .ok (.getfield 98, 3) := by decide +kernel
theorem dX10_goOn_34 : decode cX10_goOn 34 = .ok (.iload_n 2, 1) := by decide +kernel
theorem dX10_goOn_35 : decode cX10_goOn 35 = .ok (.laload, 1) := by decide +kernel
theorem dX10_goOn_36 : decode cX10_goOn 36 = .ok (.ldc2_w 92, 3) := by decide +kernel
theorem dX10_goOn_39 : decode cX10_goOn 39 = .ok (.lxor, 1) := by decide +kernel
theorem dX10_goOn_40 : decode cX10_goOn 40 = .ok (.land, 1) := by decide +kernel
theorem dX10_goOn_41 : decode cX10_goOn 41 = .ok (.lor, 1) := by decide +kernel
theorem dX10_goOn_42 : decode cX10_goOn 42 = .ok (.lstore 5, 2) := by decide +kernel
theorem dX10_goOn_44 : decode cX10_goOn 44 = .ok (.aload_n 1, 1) := by decide +kernel
theorem dX10_goOn_45 : decode cX10_goOn 45 = .ok (.lload_n 3, 1) := by decide +kernel
theorem dX10_goOn_46 : decode cX10_goOn 46 = .ok (.iload_n 2, 1) := by decide +kernel
theorem dX10_goOn_47 : decode cX10_goOn 47 = .ok (.invokevirtual 101, 3) := by decide +kernel
theorem dX10_goOn_50 : decode cX10_goOn 50 = .ok (.lstore_n 3, 1) := by decide +kernel
theorem dX10_goOn_51 : decode cX10_goOn 51 = .ok (.aload_n 0, 1) := by decide +kernel
theorem dX10_goOn_52 : decode cX10_goOn 52 = .ok (.dup, 1) := by decide +kernel
theorem dX10_goOn_53 : decode cX10_goOn 53 = .ok (.getfield 30, 3) := by decide +kernel
theorem dX10_goOn_56 : decode cX10_goOn 56 = .ok (.lload_n 3, 1) := by decide +kernel
theorem dX10_goOn_57 : decode cX10_goOn 57 = .ok (.aload_n 1, 1) := by decide +kernel
theorem dX10_goOn_58 : decode cX10_goOn 58 = .ok (.getfield 105, 3) := by decide +kernel
theorem dX10_goOn_61 : decode cX10_goOn 61 = .ok (.land, 1) := by decide +kernel
theorem dX10_goOn_62 : decode cX10_goOn 62 = .ok (.lor, 1) := by decide +kernel
theorem dX10_goOn_63 : decode cX10_goOn 63 = .ok (.putfield 30, 3) := by decide +kernel
theorem dX10_goOn_66 : decode cX10_goOn 66 = .ok (.lload_n 3, 1) := by decide +kernel
theorem dX10_goOn_67 : decode cX10_goOn 67 = .ok (.aload_n 1, 1) := by decide +kernel
theorem dX10_goOn_68 : decode cX10_goOn 68 = .ok (.getfield 105, 3) := by decide +kernel
theorem dX10_goOn_71 : decode cX10_goOn 71 = .ok (.ldc2_w 92, 3) := by decide +kernel
theorem dX10_goOn_74 : decode cX10_goOn 74 = .ok (.lxor, 1) := by decide +kernel
theorem dX10_goOn_75 : decode cX10_goOn 75 = .ok (.land, 1) := by decide +kernel
theorem dX10_goOn_76 : decode cX10_goOn 76 = .ok (.lstore_n 3, 1) := by decide +kernel
theorem dX10_goOn_77 : decode cX10_goOn 77 = .ok (.iinc 7 1, 3) := by decide +kernel
theorem dX10_goOn_80 : decode cX10_goOn 80 = .ok (.goto (-60), 3) := by decide +kernel
theorem dX10_goOn_83 : decode cX10_goOn 83 = .ok (.aload_n 0, 1) := by decide +kernel
theorem dX10_goOn_84 : decode cX10_goOn 84 = .ok (.getfield 9, 3) := by decide +kernel
theorem dX10_goOn_87 : decode cX10_goOn 87 = .ok (.iload_n 2, 1) := by decide +kernel
theorem dX10_goOn_88 : decode cX10_goOn 88 = .ok (.lload 5, 2) := by decide +kernel
theorem dX10_goOn_90 : decode cX10_goOn 90 = .ok (.lastore, 1) := by decide +kernel
theorem dX10_goOn_91 : decode cX10_goOn 91 = .ok (.iinc 2 1, 3) := by decide +kernel
theorem dX10_goOn_94 : decode cX10_goOn 94 = .ok (.goto (-92), 3) := by decide +kernel
theorem dX10_goOn_97 : decode cX10_goOn 97 = .ok (.aload_n 0, 1) := by decide +kernel
theorem dX10_goOn_98 : decode cX10_goOn 98 = .ok (.getfield 9, 3) := by decide +kernel
theorem dX10_goOn_101 : decode cX10_goOn 101 = .ok (.iconst 4, 1) := by decide +kernel
theorem dX10_goOn_102 : decode cX10_goOn 102 = .ok (.lconst 0, 1) := by decide +kernel
theorem dX10_goOn_103 : decode cX10_goOn 103 = .ok (.lastore, 1) := by decide +kernel
theorem dX10_goOn_104 : decode cX10_goOn 104 = .ok (.return_, 1) := by decide +kernel
theorem dX10_stay_0 : decode cX10_stay 0 = .ok (.iconst 0, 1) := by decide +kernel
theorem dX10_stay_1 : decode cX10_stay 1 = .ok (.istore_n 3, 1) := by decide +kernel
theorem dX10_stay_2 : decode cX10_stay 2 = .ok (.iload_n 3, 1) := by decide +kernel
theorem dX10_stay_3 : decode cX10_stay 3 = .ok (.iconst 5, 1) := by decide +kernel
theorem dX10_stay_4 : decode cX10_stay 4 = .ok (.if_icmp .ge 19, 3) := by decide +kernel
theorem dX10_stay_7 : decode cX10_stay 7 = .ok (.aload_n 0, 1) := by decide +kernel
theorem dX10_stay_8 : decode cX10_stay 8 = .ok (.getfield 9, 3) := by decide +kernel
theorem dX10_stay_11 : decode cX10_stay 11 = .ok (.iload_n 3, 1) := by decide +kernel
theorem dX10_stay_12 : decode cX10_stay 12 = .ok (.dup2, 1) := by decide +kernel
theorem dX10_stay_13 : decode cX10_stay 13 = .ok (.laload, 1) := by decide +kernel
theorem dX10_stay_14 : decode cX10_stay 14 = .ok (.lload_n 1, 1) := by decide +kernel
theorem dX10_stay_15 : decode cX10_stay 15 = .ok (.land, 1) := by decide +kernel
theorem dX10_stay_16 : decode cX10_stay 16 = .ok (.lastore, 1) := by decide +kernel
theorem dX10_stay_17 : decode cX10_stay 17 = .ok (.iinc 3 1, 3) := by decide +kernel
theorem dX10_stay_20 : decode cX10_stay 20 = .ok (.goto (-18), 3) := by decide +kernel
theorem dX10_stay_23 : decode cX10_stay 23 = .ok (.return_, 1) := by decide +kernel
theorem dX11_init_0 : decode cX11_init 0 = .ok (.aload_n 0, 1) := by decide +kernel
theorem dX11_init_1 : decode cX11_init 1 = .ok (.invokespecial 1, 3) := by decide +kernel
theorem dX11_init_4 : decode cX11_init 4 = .ok (.aload_n 0, 1) := by decide +kernel
theorem dX11_init_5 : decode cX11_init 5 = .ok (.new 7, 3) := by decide +kernel
theorem dX11_init_8 : decode cX11_init 8 = .ok (.dup, 1) := by decide +kernel
theorem dX11_init_9 : decode cX11_init 9 = .ok (.invokespecial 9, 3) := by decide +kernel
theorem dX11_init_12 : decode cX11_init 12 = .ok (.putfield 10, 3) := by decide +kernel
theorem dX11_init_15 : decode cX11_init 15 = .ok (.aload_n 0, 1) := by decide +kernel
theorem dX11_init_16 : decode cX11_init 16 = .ok (.iconst 3, 1) := by decide +kernel
theorem dX11_init_17 : decode cX11_init 17 = .ok (.anewarray 7, 3) := by decide +kernel
theorem dX11_init_20 : decode cX11_init 20 = .ok (.putfield 16, 3) := by decide +kernel
theorem dX11_init_23 : decode cX11_init 23 = .ok (.aload_n 0, 1) := by decide +kernel
theorem dX11_init_24 : decode cX11_init 24 = .ok (.iconst 3, 1) := by decide +kernel
theorem dX11_init_25 : decode cX11_init 25 = .ok (.newarray .boolean, 2) := by decide +kernel
theorem dX11_init_27 : decode cX11_init 27 = .ok (.putfield 20, 3) := by decide +kernel
theorem dX11_init_30 : decode cX11_init 30 = .ok (.aload_n 0, 1) := by decide +kernel
theorem dX11_init_31 : decode cX11_init 31 = .ok (.new 24, 3) := by decide +kernel
theorem dX11_init_34 : decode cX11_init 34 = .ok (.dup, 1) := by decide +kernel
theorem dX11_init_35 : decode cX11_init 35 = .ok (.invokespecial 26, 3) := by decide +kernel
theorem dX11_init_38 : decode cX11_init 38 = .ok (.putfield 27, 3) := by decide +kernel
theorem dX11_init_41 : decode cX11_init 41 = .ok (.aload_n 0, 1) := by decide +kernel
theorem dX11_init_42 : decode cX11_init 42 = .ok (.new 31, 3) := by decide +kernel
theorem dX11_init_45 : decode cX11_init 45 = .ok (.dup, 1) := by decide +kernel
theorem dX11_init_46 : decode cX11_init 46 = .ok (.invokespecial 33, 3) := by decide +kernel
theorem dX11_init_49 : decode cX11_init 49 = .ok (.putfield 34, 3) := by decide +kernel
theorem dX11_init_52 : decode cX11_init 52 = .ok (.aload_n 0, 1) := by decide +kernel
theorem dX11_init_53 : decode cX11_init 53 = .ok (.new 38, 3) := by decide +kernel
theorem dX11_init_56 : decode cX11_init 56 = .ok (.dup, 1) := by decide +kernel
theorem dX11_init_57 : decode cX11_init 57 = .ok (.invokespecial 40, 3) := by decide +kernel
theorem dX11_init_60 : decode cX11_init 60 = .ok (.putfield 41, 3) := by decide +kernel
theorem dX11_init_63 : decode cX11_init 63 = .ok (.aload_n 0, 1) := by decide +kernel
