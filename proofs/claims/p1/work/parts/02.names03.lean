theorem dX11_init_64 : decode cX11_init 64 = .ok (.new 45, 3) := by decide +kernel
theorem dX11_init_67 : decode cX11_init 67 = .ok (.dup, 1) := by decide +kernel
theorem dX11_init_68 : decode cX11_init 68 = .ok (.invokespecial 47, 3) := by decide +kernel
theorem dX11_init_71 : decode cX11_init 71 = .ok (.putfield 48, 3) := by decide +kernel
theorem dX11_init_74 : decode cX11_init 74 = .ok (.aload_n 0, 1) := by decide +kernel
theorem dX11_init_75 : decode cX11_init 75 = .ok (.aload_n 0, 1) := by decide +kernel
theorem dX11_init_76 : decode cX11_init 76 = .ok (.getfield 48, 3) := by decide +kernel
theorem dX11_init_79 : decode cX11_init 79 = .ok (.getfield 52, 3) := by decide +kernel
theorem dX11_init_82 : decode cX11_init 82 = .ok (.putfield 56, 3) := by decide +kernel
theorem dX11_init_85 : decode cX11_init 85 = .ok (.iconst 0, 1) := by decide +kernel
theorem dX11_init_86 : decode cX11_init 86 = .ok (.istore_n 1, 1) := by decide +kernel
theorem dX11_init_87 : decode cX11_init 87 = .ok (.iload_n 1, 1) := by decide +kernel
theorem dX11_init_88 : decode cX11_init 88 = .ok (.iconst 3, 1) := by decide +kernel
theorem dX11_init_89 : decode cX11_init 89 = .ok (.if_icmp .ge 22, 3) := by decide +kernel
theorem dX11_init_92 : decode cX11_init 92 = .ok (.aload_n 0, 1) := by decide +kernel
theorem dX11_init_93 : decode cX11_init 93 = .ok (.getfield 16, 3) := by decide +kernel
theorem dX11_init_96 : decode cX11_init 96 = .ok (.iload_n 1, 1) := by decide +kernel
theorem dX11_init_97 : decode cX11_init 97 = .ok (.new 7, 3) := by decide +kernel
theorem dX11_init_100 : decode cX11_init 100 = .ok (.dup, 1) := by decide +kernel
theorem dX11_init_101 : decode cX11_init 101 = .ok (.invokespecial 9, 3) := by decide +kernel
theorem dX11_init_104 : decode cX11_init 104 = .ok (.aastore, 1) := by decide +kernel
theorem dX11_init_105 : decode cX11_init 105 = .ok (.iinc 1 1, 3) := by decide +kernel
theorem dX11_init_108 : decode cX11_init 108 = .ok (.goto (-21), 3) := by decide +kernel
theorem dX11_init_111 : decode cX11_init 111 = .ok (.return_, 1) := by decide +kernel
theorem dX11_feed_0 : decode cX11_feed 0 = .ok (.aload_n 0, 1) := by decide +kernel
theorem dX11_feed_1 : decode cX11_feed 1 = .ok (.getfield 10, 3) := by decide +kernel
theorem dX11_feed_4 : decode cX11_feed 4 = .ok (.getfield 57, 3) := by decide +kernel
theorem dX11_feed_7 : decode cX11_feed 7 = .ok (.bipush 20, 2) := by decide +kernel
theorem dX11_feed_9 : decode cX11_feed 9 = .ok (.iadd, 1) := by decide +kernel
theorem dX11_feed_10 : decode cX11_feed 10 = .ok (.sipush 600, 3) := by decide +kernel
theorem dX11_feed_13 : decode cX11_feed 13 = .ok (.if_icmp .le 5, 3) := by decide +kernel
theorem dX11_feed_16 : decode cX11_feed 16 = .ok (.iconst (-1), 1) := by decide +kernel
theorem dX11_feed_17 : decode cX11_feed 17 = .ok (.ireturn, 1) := by decide +kernel
theorem dX11_feed_18 : decode cX11_feed 18 = .ok (.aload_n 0, 1) := by decide +kernel
theorem dX11_feed_19 : decode cX11_feed 19 = .ok (.getfield 10, 3) := by decide +kernel
theorem dX11_feed_22 : decode cX11_feed 22 = .ok (.iload_n 1, 1) := by decide +kernel
theorem dX11_feed_23 : decode cX11_feed 23 = .ok (.invokevirtual 61, 3) := by decide +kernel
theorem dX11_feed_26 : decode cX11_feed 26 = .ok (.aload_n 0, 1) := by decide +kernel
theorem dX11_feed_27 : decode cX11_feed 27 = .ok (.getfield 10, 3) := by decide +kernel
theorem dX11_feed_30 : decode cX11_feed 30 = .ok (.iload_n 2, 1) := by decide +kernel
theorem dX11_feed_31 : decode cX11_feed 31 = .ok (.invokevirtual 61, 3) := by decide +kernel
theorem dX11_feed_34 : decode cX11_feed 34 = .ok (.aload_n 0, 1) := by decide +kernel
theorem dX11_feed_35 : decode cX11_feed 35 = .ok (.getfield 10, 3) := by decide +kernel
theorem dX11_feed_38 : decode cX11_feed 38 = .ok (.iload_n 3, 1) := by decide +kernel
theorem dX11_feed_39 : decode cX11_feed 39 = .ok (.invokevirtual 61, 3) := by decide +kernel
theorem dX11_feed_42 : decode cX11_feed 42 = .ok (.aload_n 0, 1) := by decide +kernel
theorem dX11_feed_43 : decode cX11_feed 43 = .ok (.getfield 10, 3) := by decide +kernel
theorem dX11_feed_46 : decode cX11_feed 46 = .ok (.iload 4, 2) := by decide +kernel
theorem dX11_feed_48 : decode cX11_feed 48 = .ok (.invokevirtual 61, 3) := by decide +kernel
theorem dX11_feed_51 : decode cX11_feed 51 = .ok (.aload_n 0, 1) := by decide +kernel
theorem dX11_feed_52 : decode cX11_feed 52 = .ok (.getfield 10, 3) := by decide +kernel
theorem dX11_feed_55 : decode cX11_feed 55 = .ok (.iload 5, 2) := by decide +kernel
theorem dX11_feed_57 : decode cX11_feed 57 = .ok (.invokevirtual 61, 3) := by decide +kernel
theorem dX11_feed_60 : decode cX11_feed 60 = .ok (.aload_n 0, 1) := by decide +kernel
theorem dX11_feed_61 : decode cX11_feed 61 = .ok (.getfield 10, 3) := by decide +kernel
theorem dX11_feed_64 : decode cX11_feed 64 = .ok (.getfield 57, 3) := by decide +kernel
theorem dX11_feed_67 : decode cX11_feed 67 = .ok (.ireturn, 1) := by decide +kernel
theorem dX11_end_0 : decode cX11_end 0 = .ok (.iload_n 1, 1) := by decide +kernel
theorem dX11_end_1 : decode cX11_end 1 = .ok (.ifCond .lt 14, 3) := by decide +kernel
theorem dX11_end_4 : decode cX11_end 4 = .ok (.iload_n 1, 1) := by decide +kernel
theorem dX11_end_5 : decode cX11_end 5 = .ok (.aload_n 0, 1) := by decide +kernel
theorem dX11_end_6 : decode cX11_end 6 = .ok (.getfield 10, 3) := by decide +kernel
theorem dX11_end_9 : decode cX11_end 9 = .ok (.getfield 57, 3) := by decide +kernel
theorem dX11_end_12 : decode cX11_end 12 = .ok (.if_icmp .le 5, 3) := by decide +kernel
theorem dX11_end_15 : decode cX11_end 15 = .ok (.iconst (-1), 1) := by decide +kernel
theorem dX11_end_16 : decode cX11_end 16 = .ok (.ireturn, 1) := by decide +kernel
theorem dX11_end_17 : decode cX11_end 17 = .ok (.aload_n 0, 1) := by decide +kernel
theorem dX11_end_18 : decode cX11_end 18 = .ok (.getfield 10, 3) := by decide +kernel
theorem dX11_end_21 : decode cX11_end 21 = .ok (.iload_n 1, 1) := by decide +kernel
theorem dX11_end_22 : decode cX11_end 22 = .ok (.putfield 57, 3) := by decide +kernel
theorem dX11_end_25 : decode cX11_end 25 = .ok (.iload_n 1, 1) := by decide +kernel
theorem dX11_end_26 : decode cX11_end 26 = .ok (.ireturn, 1) := by decide +kernel
theorem dX11_text_0 : decode cX11_text 0 = .ok (.aload_n 0, 1) := by decide +kernel
theorem dX11_text_1 : decode cX11_text 1 = .ok (.getfield 10, 3) := by decide +kernel
theorem dX11_text_4 : decode cX11_text 4 = .ok (.getfield 57, 3) := by decide +kernel
theorem dX11_text_7 : decode cX11_text 7 = .ok (.istore_n 3, 1) := by decide +kernel
theorem dX11_text_8 : decode cX11_text 8 = .ok (.aload_n 0, 1) := by decide +kernel
theorem dX11_text_9 : decode cX11_text 9 = .ok (.getfield 10, 3) := by decide +kernel
theorem dX11_text_12 : decode cX11_text 12 = .ok (.iconst 0, 1) := by decide +kernel
theorem dX11_text_13 : decode cX11_text 13 = .ok (.putfield 57, 3) := by decide +kernel
theorem dX11_text_16 : decode cX11_text 16 = .ok (.aload_n 0, 1) := by decide +kernel
theorem dX11_text_17 : decode cX11_text 17 = .ok (.getfield 10, 3) := by decide +kernel
theorem dX11_text_20 : decode cX11_text 20 = .ok (.iconst 0, 1) := by decide +kernel
theorem dX11_text_21 : decode cX11_text 21 = .ok (.putfield 65, 3) := by decide +kernel
theorem dX11_text_24 : decode cX11_text 24 = .ok (.aload_n 0, 1) := by decide +kernel
theorem dX11_text_25 : decode cX11_text 25 = .ok (.getfield 10, 3) := by decide +kernel
theorem dX11_text_28 : decode cX11_text 28 = .ok (.iconst (-1), 1) := by decide +kernel
theorem dX11_text_29 : decode cX11_text 29 = .ok (.putfield 68, 3) := by decide +kernel
theorem dX11_text_32 : decode cX11_text 32 = .ok (.aload_n 0, 1) := by decide +kernel
theorem dX11_text_33 : decode cX11_text 33 = .ok (.getfield 10, 3) := by decide +kernel
theorem dX11_text_36 : decode cX11_text 36 = .ok (.iload_n 1, 1) := by decide +kernel
theorem dX11_text_37 : decode cX11_text 37 = .ok (.iload_n 2, 1) := by decide +kernel
theorem dX11_text_38 : decode cX11_text 38 = .ok (.invokevirtual 71, 3) := by decide +kernel
theorem dX11_text_41 : decode cX11_text 41 = .ok (.ifCond .ne 6, 3) := by decide +kernel
theorem dX11_text_44 : decode cX11_text 44 = .ok (.bipush (-2), 2) := by decide +kernel
theorem dX11_text_46 : decode cX11_text 46 = .ok (.ireturn, 1) := by decide +kernel
theorem dX11_text_47 : decode cX11_text 47 = .ok (.aload_n 0, 1) := by decide +kernel
theorem dX11_text_48 : decode cX11_text 48 = .ok (.getfield 27, 3) := by decide +kernel
theorem dX11_text_51 : decode cX11_text 51 = .ok (.iload_n 1, 1) := by decide +kernel
theorem dX11_text_52 : decode cX11_text 52 = .ok (.aload_n 0, 1) := by decide +kernel
theorem dX11_text_53 : decode cX11_text 53 = .ok (.getfield 10, 3) := by decide +kernel
theorem dX11_text_56 : decode cX11_text 56 = .ok (.getfield 75, 3) := by decide +kernel
theorem dX11_text_59 : decode cX11_text 59 = .ok (.iload_n 3, 1) := by decide +kernel
theorem dX11_text_60 : decode cX11_text 60 = .ok (.invokevirtual 79, 3) := by decide +kernel
theorem dX11_text_63 : decode cX11_text 63 = .ok (.aload_n 0, 1) := by decide +kernel
theorem dX11_text_64 : decode cX11_text 64 = .ok (.getfield 10, 3) := by decide +kernel
theorem dX11_text_67 : decode cX11_text 67 = .ok (.aload_n 0, 1) := by decide +kernel
theorem dX11_text_68 : decode cX11_text 68 = .ok (.getfield 27, 3) := by decide +kernel
theorem dX11_text_71 : decode cX11_text 71 = .ok (.getfield 83, 3) := by decide +kernel
theorem dX11_text_74 : decode cX11_text 74 = .ok (.putfield 65, 3) := by decide +kernel
theorem dX11_text_77 : decode cX11_text 77 = .ok (.aload_n 0, 1) := by decide +kernel
theorem dX11_text_78 : decode cX11_text 78 = .ok (.getfield 10, 3) := by decide +kernel
theorem dX11_text_81 : decode cX11_text 81 = .ok (.aload_n 0, 1) := by decide +kernel
theorem dX11_text_82 : decode cX11_text 82 = .ok (.getfield 27, 3) := by decide +kernel
theorem dX11_text_85 : decode cX11_text 85 = .ok (.getfield 84, 3) := by decide +kernel
theorem dX11_text_88 : decode cX11_text 88 = .ok (.putfield 68, 3) := by decide +kernel
theorem dX11_text_91 : decode cX11_text 91 = .ok (.aload_n 0, 1) := by decide +kernel
theorem dX11_text_92 : decode cX11_text 92 = .ok (.getfield 27, 3) := by decide +kernel
theorem dX11_text_95 : decode cX11_text 95 = .ok (.getfield 83, 3) := by decide +kernel
theorem dX11_text_98 : decode cX11_text 98 = .ok (.ifCond .ne 19, 3) := by decide +kernel
theorem dX11_text_101 : decode cX11_text 101 = .ok (.aload_n 0, 1) := by decide +kernel
theorem dX11_text_102 : decode cX11_text 102 = .ok (.getfield 10, 3) := by decide +kernel
theorem dX11_text_105 : decode cX11_text 105 = .ok (.aload_n 0, 1) := by decide +kernel
theorem dX11_text_106 : decode cX11_text 106 = .ok (.getfield 27, 3) := by decide +kernel
theorem dX11_text_109 : decode cX11_text 109 = .ok (.iload_n 1, 1) := by decide +kernel
theorem dX11_text_110 : decode cX11_text 110 = .ok (.iload_n 2, 1) := by decide +kernel
theorem dX11_text_111 : decode cX11_text 111 = .ok (.invokevirtual 85, 3) := by decide +kernel
theorem dX11_text_114 : decode cX11_text 114 = .ok (.goto 4, 3) := by decide +kernel
theorem dX11_text_117 : decode cX11_text 117 = .ok (.iconst (-1), 1) := by decide +kernel
theorem dX11_text_118 : decode cX11_text 118 = .ok (.ireturn, 1) := by decide +kernel
theorem dX11_fault_0 : decode cX11_fault 0 = .ok (.iload_n 1, 1) := by decide +kernel
theorem dX11_fault_1 : decode cX11_fault 1 = .ok (.ifCond .ne 13, 3) := by decide +kernel
theorem dX11_fault_4 : decode cX11_fault 4 = .ok (.aload_n 0, 1) := by decide +kernel
theorem dX11_fault_5 : decode cX11_fault 5 = .ok (.getfield 10, 3) := by decide +kernel
theorem dX11_fault_8 : decode cX11_fault 8 = .ok (.getfield 65, 3) := by decide +kernel
theorem dX11_fault_11 : decode cX11_fault 11 = .ok (.goto 19, 3) := by decide +kernel
theorem dX11_fault_14 : decode cX11_fault 14 = .ok (.iload_n 1, 1) := by decide +kernel
theorem dX11_fault_15 : decode cX11_fault 15 = .ok (.iconst 1, 1) := by decide +kernel
theorem dX11_fault_16 : decode cX11_fault 16 = .ok (.if_icmp .ne 13, 3) := by decide +kernel
theorem dX11_fault_19 : decode cX11_fault 19 = .ok (.aload_n 0, 1) := by decide +kernel
theorem dX11_fault_20 : decode cX11_fault 20 = .ok (.getfield 10, 3) := by decide +kernel
theorem dX11_fault_23 : decode cX11_fault 23 = .ok (.getfield 68, 3) := by decide +kernel
theorem dX11_fault_26 : decode cX11_fault 26 = .ok (.goto 4, 3) := by decide +kernel
theorem dX11_fault_29 : decode cX11_fault 29 = .ok (.iconst (-1), 1) := by decide +kernel
theorem dX11_fault_30 : decode cX11_fault 30 = .ok (.ireturn, 1) := by decide +kernel
theorem dX11_board_0 : decode cX11_board 0 = .ok (.aload_n 0, 1) := by decide +kernel
theorem dX11_board_1 : decode cX11_board 1 = .ok (.getfield 10, 3) := by decide +kernel
theorem dX11_board_4 : decode cX11_board 4 = .ok (.iload_n 1, 1) := by decide +kernel
theorem dX11_board_5 : decode cX11_board 5 = .ok (.invokevirtual 89, 3) := by decide +kernel
theorem dX11_board_8 : decode cX11_board 8 = .ok (.astore_n 3, 1) := by decide +kernel
theorem dX11_board_9 : decode cX11_board 9 = .ok (.aload_n 3, 1) := by decide +kernel
theorem dX11_board_10 : decode cX11_board 10 = .ok (.ifnonnull 5, 3) := by decide +kernel
theorem dX11_board_13 : decode cX11_board 13 = .ok (.iconst (-1), 1) := by decide +kernel
theorem dX11_board_14 : decode cX11_board 14 = .ok (.ireturn, 1) := by decide +kernel
theorem dX11_board_15 : decode cX11_board 15 = .ok (.iload_n 2, 1) := by decide +kernel
theorem dX11_board_16 : decode cX11_board 16 = .ok (.tableswitch 67 0 4 #[36, 41, 46, 51, 59], 36) := by decide +kernel
theorem dX11_board_52 : decode cX11_board 52 = .ok (.aload_n 3, 1) := by decide +kernel
theorem dX11_board_53 : decode cX11_board 53 = .ok (.getfield 93, 3) := by decide +kernel
theorem dX11_board_56 : decode cX11_board 56 = .ok (.ireturn, 1) := by decide +kernel
theorem dX11_board_57 : decode cX11_board 57 = .ok (.aload_n 3, 1) := by decide +kernel
theorem dX11_board_58 : decode cX11_board 58 = .ok (.getfield 98, 3) := by decide +kernel
theorem dX11_board_61 : decode cX11_board 61 = .ok (.ireturn, 1) := by decide +kernel
theorem dX11_board_62 : decode cX11_board 62 = .ok (.aload_n 3, 1) := by decide +kernel
theorem dX11_board_63 : decode cX11_board 63 = .ok (.getfield 101, 3) := by decide +kernel
theorem dX11_board_66 : decode cX11_board 66 = .ok (.ireturn, 1) := by decide +kernel
theorem dX11_board_67 : decode cX11_board 67 = .ok (.aload_n 3, 1) := by decide +kernel
theorem dX11_board_68 : decode cX11_board 68 = .ok (.getfield 104, 3) := by decide +kernel
theorem dX11_board_71 : decode cX11_board 71 = .ok (.invokestatic 108, 3) := by decide +kernel
theorem dX11_board_74 : decode cX11_board 74 = .ok (.ireturn, 1) := by decide +kernel
theorem dX11_board_75 : decode cX11_board 75 = .ok (.aload_n 3, 1) := by decide +kernel
theorem dX11_board_76 : decode cX11_board 76 = .ok (.getfield 114, 3) := by decide +kernel
theorem dX11_board_79 : decode cX11_board 79 = .ok (.invokestatic 108, 3) := by decide +kernel
theorem dX11_board_82 : decode cX11_board 82 = .ok (.ireturn, 1) := by decide +kernel
theorem dX11_board_83 : decode cX11_board 83 = .ok (.iconst (-1), 1) := by decide +kernel
theorem dX11_board_84 : decode cX11_board 84 = .ok (.ireturn, 1) := by decide +kernel
theorem dX11_field_0 : decode cX11_field 0 = .ok (.aload_n 0, 1) := by decide +kernel
theorem dX11_field_1 : decode cX11_field 1 = .ok (.getfield 10, 3) := by decide +kernel
theorem dX11_field_4 : decode cX11_field 4 = .ok (.iload_n 1, 1) := by decide +kernel
theorem dX11_field_5 : decode cX11_field 5 = .ok (.invokevirtual 89, 3) := by decide +kernel
theorem dX11_field_8 : decode cX11_field 8 = .ok (.astore_n 3, 1) := by decide +kernel
theorem dX11_field_9 : decode cX11_field 9 = .ok (.aload_n 3, 1) := by decide +kernel
theorem dX11_field_10 : decode cX11_field 10 = .ok (.ifnull 11, 3) := by decide +kernel
theorem dX11_field_13 : decode cX11_field 13 = .ok (.aload_n 3, 1) := by decide +kernel
theorem dX11_field_14 : decode cX11_field 14 = .ok (.iload_n 2, 1) := by decide +kernel
theorem dX11_field_15 : decode cX11_field 15 = .ok (.invokevirtual 117, 3) := by decide +kernel
theorem dX11_field_18 : decode cX11_field 18 = .ok (.ifCond .ne 5, 3) := by decide +kernel
theorem dX11_field_21 : decode cX11_field 21 = .ok (.iconst (-1), 1) := by decide +kernel
theorem dX11_field_22 : decode cX11_field 22 = .ok (.ireturn, 1) := by decide +kernel
theorem dX11_field_23 : decode cX11_field 23 = .ok (.aload_n 3, 1) := by decide +kernel
theorem dX11_field_24 : decode cX11_field 24 = .ok (.getfield 104, 3) := by decide +kernel
theorem dX11_field_27 : decode cX11_field 27 = .ok (.iload_n 2, 1) := by decide +kernel
theorem dX11_field_28 : decode cX11_field 28 = .ok (.invokestatic 121, 3) := by decide +kernel
theorem dX11_field_31 : decode cX11_field 31 = .ok (.ifCond .eq 5, 3) := by decide +kernel
theorem dX11_field_34 : decode cX11_field 34 = .ok (.iconst 1, 1) := by decide +kernel
theorem dX11_field_35 : decode cX11_field 35 = .ok (.ireturn, 1) := by decide +kernel
theorem dX11_field_36 : decode cX11_field 36 = .ok (.aload_n 3, 1) := by decide +kernel
theorem dX11_field_37 : decode cX11_field 37 = .ok (.getfield 114, 3) := by decide +kernel
theorem dX11_field_40 : decode cX11_field 40 = .ok (.iload_n 2, 1) := by decide +kernel
theorem dX11_field_41 : decode cX11_field 41 = .ok (.invokestatic 121, 3) := by decide +kernel
theorem dX11_field_44 : decode cX11_field 44 = .ok (.ifCond .eq 5, 3) := by decide +kernel
theorem dX11_field_47 : decode cX11_field 47 = .ok (.iconst 2, 1) := by decide +kernel
theorem dX11_field_48 : decode cX11_field 48 = .ok (.ireturn, 1) := by decide +kernel
theorem dX11_field_49 : decode cX11_field 49 = .ok (.aload_n 3, 1) := by decide +kernel
theorem dX11_field_50 : decode cX11_field 50 = .ok (.iload_n 2, 1) := by decide +kernel
theorem dX11_field_51 : decode cX11_field 51 = .ok (.invokevirtual 125, 3) := by decide +kernel
theorem dX11_field_54 : decode cX11_field 54 = .ok (.istore 4, 2) := by decide +kernel
theorem dX11_field_56 : decode cX11_field 56 = .ok (.iload 4, 2) := by decide +kernel
theorem dX11_field_58 : decode cX11_field 58 = .ok (.iconst (-1), 1) := by decide +kernel
theorem dX11_field_59 : decode cX11_field 59 = .ok (.if_icmp .ne 7, 3) := by decide +kernel
theorem dX11_field_62 : decode cX11_field 62 = .ok (.iconst 0, 1) := by decide +kernel
theorem dX11_field_63 : decode cX11_field 63 = .ok (.goto 8, 3) := by decide +kernel
theorem dX11_field_66 : decode cX11_field 66 = .ok (.bipush 10, 2) := by decide +kernel
theorem dX11_field_68 : decode cX11_field 68 = .ok (.iload 4, 2) := by decide +kernel
theorem dX11_field_70 : decode cX11_field 70 = .ok (.iadd, 1) := by decide +kernel
theorem dX11_field_71 : decode cX11_field 71 = .ok (.ireturn, 1) := by decide +kernel
theorem dX11_man_0 : decode cX11_man 0 = .ok (.aload_n 0, 1) := by decide +kernel
theorem dX11_man_1 : decode cX11_man 1 = .ok (.getfield 10, 3) := by decide +kernel
theorem dX11_man_4 : decode cX11_man 4 = .ok (.iload_n 1, 1) := by decide +kernel
theorem dX11_man_5 : decode cX11_man 5 = .ok (.invokevirtual 89, 3) := by decide +kernel
theorem dX11_man_8 : decode cX11_man 8 = .ok (.astore 4, 2) := by decide +kernel
theorem dX11_man_10 : decode cX11_man 10 = .ok (.aload 4, 2) := by decide +kernel
theorem dX11_man_12 : decode cX11_man 12 = .ok (.ifnull 12, 3) := by decide +kernel
theorem dX11_man_15 : decode cX11_man 15 = .ok (.aload 4, 2) := by decide +kernel
theorem dX11_man_17 : decode cX11_man 17 = .ok (.iload_n 2, 1) := by decide +kernel
theorem dX11_man_18 : decode cX11_man 18 = .ok (.invokevirtual 129, 3) := by decide +kernel
theorem dX11_man_21 : decode cX11_man 21 = .ok (.ifCond .ne 5, 3) := by decide +kernel
theorem dX11_man_24 : decode cX11_man 24 = .ok (.iconst (-1), 1) := by decide +kernel
theorem dX11_man_25 : decode cX11_man 25 = .ok (.ireturn, 1) := by decide +kernel
theorem dX11_man_26 : decode cX11_man 26 = .ok (.iload_n 3, 1) := by decide +kernel
theorem dX11_man_27 : decode cX11_man 27 = .ok (.ifCond .ne 13, 3) := by decide +kernel
theorem dX11_man_30 : decode cX11_man 30 = .ok (.aload 4, 2) := by decide +kernel
theorem dX11_man_32 : decode cX11_man 32 = .ok (.getfield 132, 3) := by decide +kernel
theorem dX11_man_35 : decode cX11_man 35 = .ok (.iload_n 2, 1) := by decide +kernel
theorem dX11_man_36 : decode cX11_man 36 = .ok (.iaload, 1) := by decide +kernel
theorem dX11_man_37 : decode cX11_man 37 = .ok (.goto 19, 3) := by decide +kernel
theorem dX11_man_40 : decode cX11_man 40 = .ok (.iload_n 3, 1) := by decide +kernel
theorem dX11_man_41 : decode cX11_man 41 = .ok (.iconst 1, 1) := by decide +kernel
theorem dX11_man_42 : decode cX11_man 42 = .ok (.if_icmp .ne 13, 3) := by decide +kernel
theorem dX11_man_45 : decode cX11_man 45 = .ok (.aload 4, 2) := by decide +kernel
theorem dX11_man_47 : decode cX11_man 47 = .ok (.getfield 135, 3) := by decide +kernel
theorem dX11_man_50 : decode cX11_man 50 = .ok (.iload_n 2, 1) := by decide +kernel
theorem dX11_man_51 : decode cX11_man 51 = .ok (.iaload, 1) := by decide +kernel
theorem dX11_man_52 : decode cX11_man 52 = .ok (.goto 4, 3) := by decide +kernel
theorem dX11_man_55 : decode cX11_man 55 = .ok (.iconst (-1), 1) := by decide +kernel
theorem dX11_man_56 : decode cX11_man 56 = .ok (.ireturn, 1) := by decide +kernel
theorem dX11_rule_0 : decode cX11_rule 0 = .ok (.aload_n 0, 1) := by decide +kernel
theorem dX11_rule_1 : decode cX11_rule 1 = .ok (.getfield 10, 3) := by decide +kernel
theorem dX11_rule_4 : decode cX11_rule 4 = .ok (.iload_n 1, 1) := by decide +kernel
theorem dX11_rule_5 : decode cX11_rule 5 = .ok (.invokevirtual 138, 3) := by decide +kernel
theorem dX11_rule_8 : decode cX11_rule 8 = .ok (.ifCond .ne 6, 3) := by decide +kernel
theorem dX11_rule_11 : decode cX11_rule 11 = .ok (.bipush (-2), 2) := by decide +kernel
theorem dX11_rule_13 : decode cX11_rule 13 = .ok (.ireturn, 1) := by decide +kernel
theorem dX11_rule_14 : decode cX11_rule 14 = .ok (.aload_n 0, 1) := by decide +kernel
theorem dX11_rule_15 : decode cX11_rule 15 = .ok (.getfield 10, 3) := by decide +kernel
theorem dX11_rule_18 : decode cX11_rule 18 = .ok (.getfield 141, 3) := by decide +kernel
theorem dX11_rule_21 : decode cX11_rule 21 = .ok (.iload_n 1, 1) := by decide +kernel
theorem dX11_rule_22 : decode cX11_rule 22 = .ok (.laload, 1) := by decide +kernel
theorem dX11_rule_23 : decode cX11_rule 23 = .ok (.lstore_n 3, 1) := by decide +kernel
theorem dX11_rule_24 : decode cX11_rule 24 = .ok (.iload_n 2, 1) := by decide +kernel
theorem dX11_rule_25 : decode cX11_rule 25 = .ok (.iconst (-1), 1) := by decide +kernel
theorem dX11_rule_26 : decode cX11_rule 26 = .ok (.if_icmp .ne 8, 3) := by decide +kernel
theorem dX11_rule_29 : decode cX11_rule 29 = .ok (.lload_n 3, 1) := by decide +kernel
theorem dX11_rule_30 : decode cX11_rule 30 = .ok (.invokestatic 145, 3) := by decide +kernel
theorem dX11_rule_33 : decode cX11_rule 33 = .ok (.ireturn, 1) := by decide +kernel
theorem dX11_rule_34 : decode cX11_rule 34 = .ok (.iload_n 2, 1) := by decide +kernel
theorem dX11_rule_35 : decode cX11_rule 35 = .ok (.ifCond .lt 19, 3) := by decide +kernel
theorem dX11_rule_38 : decode cX11_rule 38 = .ok (.iload_n 2, 1) := by decide +kernel
theorem dX11_rule_39 : decode cX11_rule 39 = .ok (.lload_n 3, 1) := by decide +kernel
theorem dX11_rule_40 : decode cX11_rule 40 = .ok (.invokestatic 145, 3) := by decide +kernel
theorem dX11_rule_43 : decode cX11_rule 43 = .ok (.if_icmp .ge 11, 3) := by decide +kernel
theorem dX11_rule_46 : decode cX11_rule 46 = .ok (.lload_n 3, 1) := by decide +kernel
theorem dX11_rule_47 : decode cX11_rule 47 = .ok (.iload_n 2, 1) := by decide +kernel
theorem dX11_rule_48 : decode cX11_rule 48 = .ok (.invokestatic 148, 3) := by decide +kernel
theorem dX11_rule_51 : decode cX11_rule 51 = .ok (.goto 5, 3) := by decide +kernel
theorem dX11_rule_54 : decode cX11_rule 54 = .ok (.bipush (-2), 2) := by decide +kernel
theorem dX11_rule_56 : decode cX11_rule 56 = .ok (.ireturn, 1) := by decide +kernel
theorem dX11_ends_0 : decode cX11_ends 0 = .ok (.aload_n 0, 1) := by decide +kernel
theorem dX11_ends_1 : decode cX11_ends 1 = .ok (.getfield 10, 3) := by decide +kernel
theorem dX11_ends_4 : decode cX11_ends 4 = .ok (.iload_n 1, 1) := by decide +kernel
theorem dX11_ends_5 : decode cX11_ends 5 = .ok (.invokevirtual 89, 3) := by decide +kernel
theorem dX11_ends_8 : decode cX11_ends 8 = .ok (.astore 4, 2) := by decide +kernel
theorem dX11_ends_10 : decode cX11_ends 10 = .ok (.aload 4, 2) := by decide +kernel
theorem dX11_ends_12 : decode cX11_ends 12 = .ok (.ifnull 23, 3) := by decide +kernel
theorem dX11_ends_15 : decode cX11_ends 15 = .ok (.aload 4, 2) := by decide +kernel
theorem dX11_ends_17 : decode cX11_ends 17 = .ok (.iload_n 2, 1) := by decide +kernel
theorem dX11_ends_18 : decode cX11_ends 18 = .ok (.invokevirtual 129, 3) := by decide +kernel
theorem dX11_ends_21 : decode cX11_ends 21 = .ok (.ifCond .eq 14, 3) := by decide +kernel
theorem dX11_ends_24 : decode cX11_ends 24 = .ok (.aload_n 0, 1) := by decide +kernel
theorem dX11_ends_25 : decode cX11_ends 25 = .ok (.getfield 10, 3) := by decide +kernel
theorem dX11_ends_28 : decode cX11_ends 28 = .ok (.iload_n 3, 1) := by decide +kernel
theorem dX11_ends_29 : decode cX11_ends 29 = .ok (.invokevirtual 138, 3) := by decide +kernel
theorem dX11_ends_32 : decode cX11_ends 32 = .ok (.ifCond .ne 7, 3) := by decide +kernel
theorem dX11_ends_35 : decode cX11_ends 35 = .ok (.ldc2_w 152, 3) := by decide +kernel
theorem dX11_ends_38 : decode cX11_ends 38 = .ok (.lreturn, 1) := by decide +kernel
theorem dX11_ends_39 : decode cX11_ends 39 = .ok (.aload_n 0, 1) := by decide +kernel
theorem dX11_ends_40 : decode cX11_ends 40 = .ok (.getfield 41, 3) := by decide +kernel
theorem dX11_ends_43 : decode cX11_ends 43 = .ok (.aload 4, 2) := by decide +kernel
theorem dX11_ends_45 : decode cX11_ends 45 = .ok (.iload_n 2, 1) := by decide +kernel
theorem dX11_ends_46 : decode cX11_ends 46 = .ok (.aload_n 0, 1) := by decide +kernel
theorem dX11_ends_47 : decode cX11_ends 47 = .ok (.getfield 10, 3) := by decide +kernel
theorem dX11_ends_50 : decode cX11_ends 50 = .ok (.getfield 141, 3) := by decide +kernel
theorem dX11_ends_53 : decode cX11_ends 53 = .ok (.iload_n 3, 1) := by decide +kernel
theorem dX11_ends_54 : decode cX11_ends 54 = .ok (.laload, 1) := by decide +kernel
theorem dX11_ends_55 : decode cX11_ends 55 = .ok (.invokevirtual 154, 3) := by decide +kernel
theorem dX11_ends_58 : decode cX11_ends 58 = .ok (.lreturn, 1) := by decide +kernel
theorem dX11_ways_0 : decode cX11_ways 0 = .ok (.aload_n 0, 1) := by decide +kernel
theorem dX11_ways_1 : decode cX11_ways 1 = .ok (.iload_n 1, 1) := by decide +kernel
theorem dX11_ways_2 : decode cX11_ways 2 = .ok (.iload_n 2, 1) := by decide +kernel
theorem dX11_ways_3 : decode cX11_ways 3 = .ok (.iload_n 3, 1) := by decide +kernel
theorem dX11_ways_4 : decode cX11_ways 4 = .ok (.iload 4, 2) := by decide +kernel
theorem dX11_ways_6 : decode cX11_ways 6 = .ok (.invokevirtual 158, 3) := by decide +kernel
theorem dX11_ways_9 : decode cX11_ways 9 = .ok (.ifCond .ne 5, 3) := by decide +kernel
theorem dX11_ways_12 : decode cX11_ways 12 = .ok (.iconst (-1), 1) := by decide +kernel
theorem dX11_ways_13 : decode cX11_ways 13 = .ok (.ireturn, 1) := by decide +kernel
theorem dX11_ways_14 : decode cX11_ways 14 = .ok (.aload_n 0, 1) := by decide +kernel
theorem dX11_ways_15 : decode cX11_ways 15 = .ok (.getfield 10, 3) := by decide +kernel
theorem dX11_ways_18 : decode cX11_ways 18 = .ok (.iload_n 1, 1) := by decide +kernel
theorem dX11_ways_19 : decode cX11_ways 19 = .ok (.invokevirtual 89, 3) := by decide +kernel
theorem dX11_ways_22 : decode cX11_ways 22 = .ok (.astore 5, 2) := by decide +kernel
theorem dX11_ways_24 : decode cX11_ways 24 = .ok (.aload_n 0, 1) := by decide +kernel
theorem dX11_ways_25 : decode cX11_ways 25 = .ok (.getfield 34, 3) := by decide +kernel
theorem dX11_ways_28 : decode cX11_ways 28 = .ok (.aload 5, 2) := by decide +kernel
theorem dX11_ways_30 : decode cX11_ways 30 = .ok (.iload_n 2, 1) := by decide +kernel
theorem dX11_ways_31 : decode cX11_ways 31 = .ok (.aload_n 0, 1) := by decide +kernel
theorem dX11_ways_32 : decode cX11_ways 32 = .ok (.getfield 10, 3) := by decide +kernel
theorem dX11_ways_35 : decode cX11_ways 35 = .ok (.getfield 141, 3) := by decide +kernel
theorem dX11_ways_38 : decode cX11_ways 38 = .ok (.iload_n 3, 1) := by decide +kernel
theorem dX11_ways_39 : decode cX11_ways 39 = .ok (.laload, 1) := by decide +kernel
theorem dX11_ways_40 : decode cX11_ways 40 = .ok (.iload 4, 2) := by decide +kernel
theorem dX11_ways_42 : decode cX11_ways 42 = .ok (.invokevirtual 162, 3) := by decide +kernel
theorem dX11_ways_45 : decode cX11_ways 45 = .ok (.aload_n 0, 1) := by decide +kernel
theorem dX11_ways_46 : decode cX11_ways 46 = .ok (.getfield 34, 3) := by decide +kernel
theorem dX11_ways_49 : decode cX11_ways 49 = .ok (.aload 5, 2) := by decide +kernel
theorem dX11_ways_51 : decode cX11_ways 51 = .ok (.getfield 135, 3) := by decide +kernel
theorem dX11_ways_54 : decode cX11_ways 54 = .ok (.iload_n 2, 1) := by decide +kernel
theorem dX11_ways_55 : decode cX11_ways 55 = .ok (.iaload, 1) := by decide +kernel
theorem dX11_ways_56 : decode cX11_ways 56 = .ok (.invokevirtual 166, 3) := by decide +kernel
theorem dX11_ways_59 : decode cX11_ways 59 = .ok (.ireturn, 1) := by decide +kernel
theorem dX11_path_0 : decode cX11_path 0 = .ok (.aload_n 0, 1) := by decide +kernel
theorem dX11_path_1 : decode cX11_path 1 = .ok (.iload_n 1, 1) := by decide +kernel
theorem dX11_path_2 : decode cX11_path 2 = .ok (.iload_n 2, 1) := by decide +kernel
theorem dX11_path_3 : decode cX11_path 3 = .ok (.iload_n 3, 1) := by decide +kernel
theorem dX11_path_4 : decode cX11_path 4 = .ok (.iload 4, 2) := by decide +kernel
theorem dX11_path_6 : decode cX11_path 6 = .ok (.invokevirtual 158, 3) := by decide +kernel
theorem dX11_path_9 : decode cX11_path 9 = .ok (.ifCond .ne 5, 3) := by decide +kernel
theorem dX11_path_12 : decode cX11_path 12 = .ok (.iconst (-1), 1) := by decide +kernel
theorem dX11_path_13 : decode cX11_path 13 = .ok (.ireturn, 1) := by decide +kernel
theorem dX11_path_14 : decode cX11_path 14 = .ok (.aload_n 0, 1) := by decide +kernel
theorem dX11_path_15 : decode cX11_path 15 = .ok (.getfield 10, 3) := by decide +kernel
theorem dX11_path_18 : decode cX11_path 18 = .ok (.iload_n 1, 1) := by decide +kernel
theorem dX11_path_19 : decode cX11_path 19 = .ok (.invokevirtual 89, 3) := by decide +kernel
theorem dX11_path_22 : decode cX11_path 22 = .ok (.astore 6, 2) := by decide +kernel
theorem dX11_path_24 : decode cX11_path 24 = .ok (.aload_n 0, 1) := by decide +kernel
theorem dX11_path_25 : decode cX11_path 25 = .ok (.getfield 34, 3) := by decide +kernel
theorem dX11_path_28 : decode cX11_path 28 = .ok (.aload 6, 2) := by decide +kernel
theorem dX11_path_30 : decode cX11_path 30 = .ok (.iload_n 2, 1) := by decide +kernel
theorem dX11_path_31 : decode cX11_path 31 = .ok (.aload_n 0, 1) := by decide +kernel
theorem dX11_path_32 : decode cX11_path 32 = .ok (.getfield 10, 3) := by decide +kernel
theorem dX11_path_35 : decode cX11_path 35 = .ok (.getfield 141, 3) := by decide +kernel
theorem dX11_path_38 : decode cX11_path 38 = .ok (.iload_n 3, 1) := by decide +kernel
theorem dX11_path_39 : decode cX11_path 39 = .ok (.laload, 1) := by decide +kernel
theorem dX11_path_40 : decode cX11_path 40 = .ok (.iload 4, 2) := by decide +kernel
theorem dX11_path_42 : decode cX11_path 42 = .ok (.invokevirtual 162, 3) := by decide +kernel
theorem dX11_path_45 : decode cX11_path 45 = .ok (.aload_n 0, 1) := by decide +kernel
theorem dX11_path_46 : decode cX11_path 46 = .ok (.getfield 34, 3) := by decide +kernel
theorem dX11_path_49 : decode cX11_path 49 = .ok (.aload 6, 2) := by decide +kernel
theorem dX11_path_51 : decode cX11_path 51 = .ok (.getfield 135, 3) := by decide +kernel
theorem dX11_path_54 : decode cX11_path 54 = .ok (.iload_n 2, 1) := by decide +kernel
theorem dX11_path_55 : decode cX11_path 55 = .ok (.iaload, 1) := by decide +kernel
theorem dX11_path_56 : decode cX11_path 56 = .ok (.invokevirtual 166, 3) := by decide +kernel
theorem dX11_path_59 : decode cX11_path 59 = .ok (.ifCond .ne 5, 3) := by decide +kernel
theorem dX11_path_62 : decode cX11_path 62 = .ok (.iconst (-1), 1) := by decide +kernel
theorem dX11_path_63 : decode cX11_path 63 = .ok (.ireturn, 1) := by decide +kernel
theorem dX11_path_64 : decode cX11_path 64 = .ok (.aload_n 0, 1) := by decide +kernel
theorem dX11_path_65 : decode cX11_path 65 = .ok (.getfield 34, 3) := by decide +kernel
theorem dX11_path_68 : decode cX11_path 68 = .ok (.aload 6, 2) := by decide +kernel
theorem dX11_path_70 : decode cX11_path 70 = .ok (.getfield 135, 3) := by decide +kernel
theorem dX11_path_73 : decode cX11_path 73 = .ok (.iload_n 2, 1) := by decide +kernel
theorem dX11_path_74 : decode cX11_path 74 = .ok (.iaload, 1) := by decide +kernel
theorem dX11_path_75 : decode cX11_path 75 = .ok (.invokevirtual 169, 3) := by decide +kernel
theorem dX11_path_78 : decode cX11_path 78 = .ok (.iload 5, 2) := by decide +kernel
theorem dX11_path_80 : decode cX11_path 80 = .ok (.iconst (-1), 1) := by decide +kernel
theorem dX11_path_81 : decode cX11_path 81 = .ok (.if_icmp .ne 11, 3) := by decide +kernel
theorem dX11_path_84 : decode cX11_path 84 = .ok (.aload_n 0, 1) := by decide +kernel
theorem dX11_path_85 : decode cX11_path 85 = .ok (.getfield 34, 3) := by decide +kernel
theorem dX11_path_88 : decode cX11_path 88 = .ok (.getfield 172, 3) := by decide +kernel
theorem dX11_path_91 : decode cX11_path 91 = .ok (.ireturn, 1) := by decide +kernel
theorem dX11_path_92 : decode cX11_path 92 = .ok (.iload 5, 2) := by decide +kernel
theorem dX11_path_94 : decode cX11_path 94 = .ok (.ifCond .lt 28, 3) := by decide +kernel
theorem dX11_path_97 : decode cX11_path 97 = .ok (.iload 5, 2) := by decide +kernel
theorem dX11_path_99 : decode cX11_path 99 = .ok (.aload_n 0, 1) := by decide +kernel
theorem dX11_path_100 : decode cX11_path 100 = .ok (.getfield 34, 3) := by decide +kernel
theorem dX11_path_103 : decode cX11_path 103 = .ok (.getfield 172, 3) := by decide +kernel
theorem dX11_path_106 : decode cX11_path 106 = .ok (.if_icmp .ge 16, 3) := by decide +kernel
theorem dX11_path_109 : decode cX11_path 109 = .ok (.aload_n 0, 1) := by decide +kernel
theorem dX11_path_110 : decode cX11_path 110 = .ok (.getfield 34, 3) := by decide +kernel
theorem dX11_path_113 : decode cX11_path 113 = .ok (.getfield 175, 3) := by decide +kernel
theorem dX11_path_116 : decode cX11_path 116 = .ok (.iload 5, 2) := by decide +kernel
theorem dX11_path_118 : decode cX11_path 118 = .ok (.iaload, 1) := by decide +kernel
theorem dX11_path_119 : decode cX11_path 119 = .ok (.goto 4, 3) := by decide +kernel
theorem dX11_path_122 : decode cX11_path 122 = .ok (.iconst (-1), 1) := by decide +kernel
theorem dX11_path_123 : decode cX11_path 123 = .ok (.ireturn, 1) := by decide +kernel
theorem dX11_move_0 : decode cX11_move 0 = .ok (.aload_n 0, 1) := by decide +kernel
theorem dX11_move_1 : decode cX11_move 1 = .ok (.getfield 10, 3) := by decide +kernel
theorem dX11_move_4 : decode cX11_move 4 = .ok (.iload_n 1, 1) := by decide +kernel
theorem dX11_move_5 : decode cX11_move 5 = .ok (.invokevirtual 176, 3) := by decide +kernel
theorem dX11_move_8 : decode cX11_move 8 = .ok (.astore 4, 2) := by decide +kernel
theorem dX11_move_10 : decode cX11_move 10 = .ok (.aload 4, 2) := by decide +kernel
theorem dX11_move_12 : decode cX11_move 12 = .ok (.ifnonnull 6, 3) := by decide +kernel
theorem dX11_move_15 : decode cX11_move 15 = .ok (.bipush (-2), 2) := by decide +kernel
theorem dX11_move_17 : decode cX11_move 17 = .ok (.ireturn, 1) := by decide +kernel
theorem dX11_move_18 : decode cX11_move 18 = .ok (.iload_n 2, 1) := by decide +kernel
theorem dX11_move_19 : decode cX11_move 19 = .ok (.iconst (-1), 1) := by decide +kernel
theorem dX11_move_20 : decode cX11_move 20 = .ok (.if_icmp .ne 13, 3) := by decide +kernel
theorem dX11_move_23 : decode cX11_move 23 = .ok (.iload_n 3, 1) := by decide +kernel
theorem dX11_move_24 : decode cX11_move 24 = .ok (.ifCond .ne 9, 3) := by decide +kernel
theorem dX11_move_27 : decode cX11_move 27 = .ok (.aload 4, 2) := by decide +kernel
theorem dX11_move_29 : decode cX11_move 29 = .ok (.getfield 180, 3) := by decide +kernel
theorem dX11_move_32 : decode cX11_move 32 = .ok (.ireturn, 1) := by decide +kernel
theorem dX11_move_33 : decode cX11_move 33 = .ok (.aload 4, 2) := by decide +kernel
theorem dX11_move_35 : decode cX11_move 35 = .ok (.iload_n 2, 1) := by decide +kernel
theorem dX11_move_36 : decode cX11_move 36 = .ok (.invokevirtual 185, 3) := by decide +kernel
theorem dX11_move_39 : decode cX11_move 39 = .ok (.ifCond .ne 6, 3) := by decide +kernel
theorem dX11_move_42 : decode cX11_move 42 = .ok (.bipush (-2), 2) := by decide +kernel
theorem dX11_move_44 : decode cX11_move 44 = .ok (.ireturn, 1) := by decide +kernel
theorem dX11_move_45 : decode cX11_move 45 = .ok (.aload 4, 2) := by decide +kernel
theorem dX11_move_47 : decode cX11_move 47 = .ok (.getfield 188, 3) := by decide +kernel
theorem dX11_move_50 : decode cX11_move 50 = .ok (.iload_n 2, 1) := by decide +kernel
theorem dX11_move_51 : decode cX11_move 51 = .ok (.laload, 1) := by decide +kernel
theorem dX11_move_52 : decode cX11_move 52 = .ok (.lstore 5, 2) := by decide +kernel
theorem dX11_move_54 : decode cX11_move 54 = .ok (.iload_n 3, 1) := by decide +kernel
theorem dX11_move_55 : decode cX11_move 55 = .ok (.ifCond .ne 11, 3) := by decide +kernel
theorem dX11_move_58 : decode cX11_move 58 = .ok (.aload 4, 2) := by decide +kernel
theorem dX11_move_60 : decode cX11_move 60 = .ok (.getfield 189, 3) := by decide +kernel
theorem dX11_move_63 : decode cX11_move 63 = .ok (.iload_n 2, 1) := by decide +kernel
theorem dX11_move_64 : decode cX11_move 64 = .ok (.iaload, 1) := by decide +kernel
theorem dX11_move_65 : decode cX11_move 65 = .ok (.ireturn, 1) := by decide +kernel
theorem dX11_move_66 : decode cX11_move 66 = .ok (.iload_n 3, 1) := by decide +kernel
theorem dX11_move_67 : decode cX11_move 67 = .ok (.iconst 1, 1) := by decide +kernel
theorem dX11_move_68 : decode cX11_move 68 = .ok (.if_icmp .ne 9, 3) := by decide +kernel
theorem dX11_move_71 : decode cX11_move 71 = .ok (.lload 5, 2) := by decide +kernel
theorem dX11_move_73 : decode cX11_move 73 = .ok (.invokestatic 145, 3) := by decide +kernel
theorem dX11_move_76 : decode cX11_move 76 = .ok (.ireturn, 1) := by decide +kernel
theorem dX11_move_77 : decode cX11_move 77 = .ok (.iload_n 3, 1) := by decide +kernel
theorem dX11_move_78 : decode cX11_move 78 = .ok (.bipush 10, 2) := by decide +kernel
theorem dX11_move_80 : decode cX11_move 80 = .ok (.if_icmp .lt 27, 3) := by decide +kernel
theorem dX11_move_83 : decode cX11_move 83 = .ok (.iload_n 3, 1) := by decide +kernel
theorem dX11_move_84 : decode cX11_move 84 = .ok (.bipush 10, 2) := by decide +kernel
theorem dX11_move_86 : decode cX11_move 86 = .ok (.lload 5, 2) := by decide +kernel
theorem dX11_move_88 : decode cX11_move 88 = .ok (.invokestatic 145, 3) := by decide +kernel
theorem dX11_move_91 : decode cX11_move 91 = .ok (.iadd, 1) := by decide +kernel
theorem dX11_move_92 : decode cX11_move 92 = .ok (.if_icmp .ge 15, 3) := by decide +kernel
theorem dX11_move_95 : decode cX11_move 95 = .ok (.lload 5, 2) := by decide +kernel
theorem dX11_move_97 : decode cX11_move 97 = .ok (.iload_n 3, 1) := by decide +kernel
theorem dX11_move_98 : decode cX11_move 98 = .ok (.bipush 10, 2) := by decide +kernel
theorem dX11_move_100 : decode cX11_move 100 = .ok (.isub, 1) := by decide +kernel
theorem dX11_move_101 : decode cX11_move 101 = .ok (.invokestatic 148, 3) := by decide +kernel
theorem dX11_move_104 : decode cX11_move 104 = .ok (.goto 5, 3) := by decide +kernel
theorem dX11_move_107 : decode cX11_move 107 = .ok (.bipush (-2), 2) := by decide +kernel
theorem dX11_move_109 : decode cX11_move 109 = .ok (.ireturn, 1) := by decide +kernel
theorem dX11_stop_0 : decode cX11_stop 0 = .ok (.aload_n 0, 1) := by decide +kernel
theorem dX11_stop_1 : decode cX11_stop 1 = .ok (.getfield 10, 3) := by decide +kernel
theorem dX11_stop_4 : decode cX11_stop 4 = .ok (.iload_n 2, 1) := by decide +kernel
theorem dX11_stop_5 : decode cX11_stop 5 = .ok (.invokevirtual 176, 3) := by decide +kernel
theorem dX11_stop_8 : decode cX11_stop 8 = .ok (.astore_n 3, 1) := by decide +kernel
theorem dX11_stop_9 : decode cX11_stop 9 = .ok (.aload_n 3, 1) := by decide +kernel
theorem dX11_stop_10 : decode cX11_stop 10 = .ok (.ifnonnull 7, 3) := by decide +kernel
theorem dX11_stop_13 : decode cX11_stop 13 = .ok (.iconst (-1), 1) := by decide +kernel
theorem dX11_stop_14 : decode cX11_stop 14 = .ok (.goto 23, 3) := by decide +kernel
theorem dX11_stop_17 : decode cX11_stop 17 = .ok (.aload_n 0, 1) := by decide +kernel
theorem dX11_stop_18 : decode cX11_stop 18 = .ok (.getfield 41, 3) := by decide +kernel
theorem dX11_stop_21 : decode cX11_stop 21 = .ok (.aload_n 0, 1) := by decide +kernel
theorem dX11_stop_22 : decode cX11_stop 22 = .ok (.getfield 10, 3) := by decide +kernel
theorem dX11_stop_25 : decode cX11_stop 25 = .ok (.iload_n 1, 1) := by decide +kernel
theorem dX11_stop_26 : decode cX11_stop 26 = .ok (.invokevirtual 89, 3) := by decide +kernel
theorem dX11_stop_29 : decode cX11_stop 29 = .ok (.aload_n 3, 1) := by decide +kernel
theorem dX11_stop_30 : decode cX11_stop 30 = .ok (.aload_n 3, 1) := by decide +kernel
theorem dX11_stop_31 : decode cX11_stop 31 = .ok (.getfield 180, 3) := by decide +kernel
theorem dX11_stop_34 : decode cX11_stop 34 = .ok (.invokevirtual 190, 3) := by decide +kernel
theorem dX11_stop_37 : decode cX11_stop 37 = .ok (.ireturn, 1) := by decide +kernel
theorem dX11_state_0 : decode cX11_state 0 = .ok (.aload_n 0, 1) := by decide +kernel
theorem dX11_state_1 : decode cX11_state 1 = .ok (.getfield 41, 3) := by decide +kernel
theorem dX11_state_4 : decode cX11_state 4 = .ok (.aload_n 0, 1) := by decide +kernel
theorem dX11_state_5 : decode cX11_state 5 = .ok (.getfield 10, 3) := by decide +kernel
theorem dX11_state_8 : decode cX11_state 8 = .ok (.iload_n 1, 1) := by decide +kernel
theorem dX11_state_9 : decode cX11_state 9 = .ok (.invokevirtual 89, 3) := by decide +kernel
theorem dX11_state_12 : decode cX11_state 12 = .ok (.aload_n 0, 1) := by decide +kernel
theorem dX11_state_13 : decode cX11_state 13 = .ok (.getfield 10, 3) := by decide +kernel
theorem dX11_state_16 : decode cX11_state 16 = .ok (.iload_n 2, 1) := by decide +kernel
theorem dX11_state_17 : decode cX11_state 17 = .ok (.invokevirtual 176, 3) := by decide +kernel
theorem dX11_state_20 : decode cX11_state 20 = .ok (.iload_n 3, 1) := by decide +kernel
theorem dX11_state_21 : decode cX11_state 21 = .ok (.invokevirtual 190, 3) := by decide +kernel
theorem dX11_state_24 : decode cX11_state 24 = .ok (.istore 5, 2) := by decide +kernel
theorem dX11_state_26 : decode cX11_state 26 = .ok (.iload 5, 2) := by decide +kernel
theorem dX11_state_28 : decode cX11_state 28 = .ok (.iconst (-1), 1) := by decide +kernel
theorem dX11_state_29 : decode cX11_state 29 = .ok (.if_icmp .eq 24, 3) := by decide +kernel
theorem dX11_state_32 : decode cX11_state 32 = .ok (.iload 5, 2) := by decide +kernel
theorem dX11_state_34 : decode cX11_state 34 = .ok (.iload_n 3, 1) := by decide +kernel
theorem dX11_state_35 : decode cX11_state 35 = .ok (.if_icmp .ne 18, 3) := by decide +kernel
theorem dX11_state_38 : decode cX11_state 38 = .ok (.aload_n 0, 1) := by decide +kernel
theorem dX11_state_39 : decode cX11_state 39 = .ok (.getfield 41, 3) := by decide +kernel
theorem dX11_state_42 : decode cX11_state 42 = .ok (.getfield 193, 3) := by decide +kernel
theorem dX11_state_45 : decode cX11_state 45 = .ok (.iload 4, 2) := by decide +kernel
theorem dX11_state_47 : decode cX11_state 47 = .ok (.invokevirtual 197, 3) := by decide +kernel
theorem dX11_state_50 : decode cX11_state 50 = .ok (.goto 5, 3) := by decide +kernel
theorem dX11_state_53 : decode cX11_state 53 = .ok (.bipush (-2), 2) := by decide +kernel
theorem dX11_state_55 : decode cX11_state 55 = .ok (.ireturn, 1) := by decide +kernel
theorem dX11_may_0 : decode cX11_may 0 = .ok (.aload_n 0, 1) := by decide +kernel
theorem dX11_may_1 : decode cX11_may 1 = .ok (.getfield 10, 3) := by decide +kernel
theorem dX11_may_4 : decode cX11_may 4 = .ok (.iload_n 2, 1) := by decide +kernel
theorem dX11_may_5 : decode cX11_may 5 = .ok (.invokevirtual 176, 3) := by decide +kernel
theorem dX11_may_8 : decode cX11_may 8 = .ok (.astore 5, 2) := by decide +kernel
theorem dX11_may_10 : decode cX11_may 10 = .ok (.aload 5, 2) := by decide +kernel
theorem dX11_may_12 : decode cX11_may 12 = .ok (.ifnull 15, 3) := by decide +kernel
theorem dX11_may_15 : decode cX11_may 15 = .ok (.aload_n 0, 1) := by decide +kernel
theorem dX11_may_16 : decode cX11_may 16 = .ok (.getfield 10, 3) := by decide +kernel
theorem dX11_may_19 : decode cX11_may 19 = .ok (.iload 4, 2) := by decide +kernel
theorem dX11_may_21 : decode cX11_may 21 = .ok (.invokevirtual 138, 3) := by decide +kernel
theorem dX11_may_24 : decode cX11_may 24 = .ok (.ifCond .ne 7, 3) := by decide +kernel
theorem dX11_may_27 : decode cX11_may 27 = .ok (.ldc2_w 152, 3) := by decide +kernel
theorem dX11_may_30 : decode cX11_may 30 = .ok (.lreturn, 1) := by decide +kernel
theorem dX11_may_31 : decode cX11_may 31 = .ok (.aload_n 0, 1) := by decide +kernel
theorem dX11_may_32 : decode cX11_may 32 = .ok (.getfield 41, 3) := by decide +kernel
theorem dX11_may_35 : decode cX11_may 35 = .ok (.aload_n 0, 1) := by decide +kernel
theorem dX11_may_36 : decode cX11_may 36 = .ok (.getfield 10, 3) := by decide +kernel
theorem dX11_may_39 : decode cX11_may 39 = .ok (.iload_n 1, 1) := by decide +kernel
theorem dX11_may_40 : decode cX11_may 40 = .ok (.invokevirtual 89, 3) := by decide +kernel
theorem dX11_may_43 : decode cX11_may 43 = .ok (.aload 5, 2) := by decide +kernel
theorem dX11_may_45 : decode cX11_may 45 = .ok (.iload_n 3, 1) := by decide +kernel
theorem dX11_may_46 : decode cX11_may 46 = .ok (.invokevirtual 190, 3) := by decide +kernel
theorem dX11_may_49 : decode cX11_may 49 = .ok (.istore 6, 2) := by decide +kernel
theorem dX11_may_51 : decode cX11_may 51 = .ok (.iload 6, 2) := by decide +kernel
theorem dX11_may_53 : decode cX11_may 53 = .ok (.iconst (-1), 1) := by decide +kernel
theorem dX11_may_54 : decode cX11_may 54 = .ok (.if_icmp .eq 22, 3) := by decide +kernel
theorem dX11_may_57 : decode cX11_may 57 = .ok (.iload 6, 2) := by decide +kernel
theorem dX11_may_59 : decode cX11_may 59 = .ok (.iload_n 3, 1) := by decide +kernel
theorem dX11_may_60 : decode cX11_may 60 = .ok (.if_icmp .ne 16, 3) := by decide +kernel
theorem dX11_may_63 : decode cX11_may 63 = .ok (.aload_n 0, 1) := by decide +kernel
theorem dX11_may_64 : decode cX11_may 64 = .ok (.getfield 41, 3) := by decide +kernel
theorem dX11_may_67 : decode cX11_may 67 = .ok (.getfield 193, 3) := by decide +kernel
theorem dX11_may_70 : decode cX11_may 70 = .ok (.invokevirtual 202, 3) := by decide +kernel
theorem dX11_may_73 : decode cX11_may 73 = .ok (.ifCond .eq 7, 3) := by decide +kernel
theorem dX11_may_76 : decode cX11_may 76 = .ok (.ldc2_w 152, 3) := by decide +kernel
theorem dX11_may_79 : decode cX11_may 79 = .ok (.lreturn, 1) := by decide +kernel
theorem dX11_may_80 : decode cX11_may 80 = .ok (.aload_n 0, 1) := by decide +kernel
theorem dX11_may_81 : decode cX11_may 81 = .ok (.getfield 41, 3) := by decide +kernel
theorem dX11_may_84 : decode cX11_may 84 = .ok (.aload_n 0, 1) := by decide +kernel
theorem dX11_may_85 : decode cX11_may 85 = .ok (.getfield 10, 3) := by decide +kernel
theorem dX11_may_88 : decode cX11_may 88 = .ok (.getfield 141, 3) := by decide +kernel
theorem dX11_may_91 : decode cX11_may 91 = .ok (.iload 4, 2) := by decide +kernel
theorem dX11_may_93 : decode cX11_may 93 = .ok (.laload, 1) := by decide +kernel
theorem dX11_may_94 : decode cX11_may 94 = .ok (.aload 5, 2) := by decide +kernel
theorem dX11_may_96 : decode cX11_may 96 = .ok (.iload_n 3, 1) := by decide +kernel
theorem dX11_may_97 : decode cX11_may 97 = .ok (.invokevirtual 206, 3) := by decide +kernel
theorem dX11_may_100 : decode cX11_may 100 = .ok (.invokevirtual 210, 3) := by decide +kernel
theorem dX11_may_103 : decode cX11_may 103 = .ok (.lreturn, 1) := by decide +kernel
theorem dX11_fatal_0 : decode cX11_fatal 0 = .ok (.aload_n 0, 1) := by decide +kernel
theorem dX11_fatal_1 : decode cX11_fatal 1 = .ok (.getfield 10, 3) := by decide +kernel
theorem dX11_fatal_4 : decode cX11_fatal 4 = .ok (.iload_n 2, 1) := by decide +kernel
theorem dX11_fatal_5 : decode cX11_fatal 5 = .ok (.invokevirtual 176, 3) := by decide +kernel
theorem dX11_fatal_8 : decode cX11_fatal 8 = .ok (.astore 5, 2) := by decide +kernel
theorem dX11_fatal_10 : decode cX11_fatal 10 = .ok (.aload 5, 2) := by decide +kernel
theorem dX11_fatal_12 : decode cX11_fatal 12 = .ok (.ifnull 36, 3) := by decide +kernel
theorem dX11_fatal_15 : decode cX11_fatal 15 = .ok (.aload 5, 2) := by decide +kernel
theorem dX11_fatal_17 : decode cX11_fatal 17 = .ok (.iload_n 3, 1) := by decide +kernel
theorem dX11_fatal_18 : decode cX11_fatal 18 = .ok (.invokevirtual 185, 3) := by decide +kernel
theorem dX11_fatal_21 : decode cX11_fatal 21 = .ok (.ifCond .eq 27, 3) := by decide +kernel
theorem dX11_fatal_24 : decode cX11_fatal 24 = .ok (.aload_n 0, 1) := by decide +kernel
theorem dX11_fatal_25 : decode cX11_fatal 25 = .ok (.getfield 41, 3) := by decide +kernel
theorem dX11_fatal_28 : decode cX11_fatal 28 = .ok (.aload_n 0, 1) := by decide +kernel
theorem dX11_fatal_29 : decode cX11_fatal 29 = .ok (.getfield 10, 3) := by decide +kernel
theorem dX11_fatal_32 : decode cX11_fatal 32 = .ok (.iload_n 1, 1) := by decide +kernel
theorem dX11_fatal_33 : decode cX11_fatal 33 = .ok (.invokevirtual 89, 3) := by decide +kernel
theorem dX11_fatal_36 : decode cX11_fatal 36 = .ok (.aload 5, 2) := by decide +kernel
theorem dX11_fatal_38 : decode cX11_fatal 38 = .ok (.iload_n 3, 1) := by decide +kernel
theorem dX11_fatal_39 : decode cX11_fatal 39 = .ok (.iconst 1, 1) := by decide +kernel
theorem dX11_fatal_40 : decode cX11_fatal 40 = .ok (.iadd, 1) := by decide +kernel
theorem dX11_fatal_41 : decode cX11_fatal 41 = .ok (.invokevirtual 190, 3) := by decide +kernel
theorem dX11_fatal_44 : decode cX11_fatal 44 = .ok (.iload_n 3, 1) := by decide +kernel
theorem dX11_fatal_45 : decode cX11_fatal 45 = .ok (.if_icmp .gt 5, 3) := by decide +kernel
theorem dX11_fatal_48 : decode cX11_fatal 48 = .ok (.iconst (-1), 1) := by decide +kernel
theorem dX11_fatal_49 : decode cX11_fatal 49 = .ok (.ireturn, 1) := by decide +kernel
theorem dX11_fatal_50 : decode cX11_fatal 50 = .ok (.aload_n 0, 1) := by decide +kernel
theorem dX11_fatal_51 : decode cX11_fatal 51 = .ok (.getfield 41, 3) := by decide +kernel
theorem dX11_fatal_54 : decode cX11_fatal 54 = .ok (.aload_n 0, 1) := by decide +kernel
theorem dX11_fatal_55 : decode cX11_fatal 55 = .ok (.getfield 10, 3) := by decide +kernel
theorem dX11_fatal_58 : decode cX11_fatal 58 = .ok (.iload_n 1, 1) := by decide +kernel
theorem dX11_fatal_59 : decode cX11_fatal 59 = .ok (.invokevirtual 89, 3) := by decide +kernel
theorem dX11_fatal_62 : decode cX11_fatal 62 = .ok (.aload 5, 2) := by decide +kernel
theorem dX11_fatal_64 : decode cX11_fatal 64 = .ok (.iload_n 3, 1) := by decide +kernel
theorem dX11_fatal_65 : decode cX11_fatal 65 = .ok (.invokevirtual 190, 3) := by decide +kernel
theorem dX11_fatal_68 : decode cX11_fatal 68 = .ok (.pop, 1) := by decide +kernel
theorem dX11_fatal_69 : decode cX11_fatal 69 = .ok (.aload_n 0, 1) := by decide +kernel
theorem dX11_fatal_70 : decode cX11_fatal 70 = .ok (.getfield 41, 3) := by decide +kernel
theorem dX11_fatal_73 : decode cX11_fatal 73 = .ok (.aload 5, 2) := by decide +kernel
theorem dX11_fatal_75 : decode cX11_fatal 75 = .ok (.iload_n 3, 1) := by decide +kernel
theorem dX11_fatal_76 : decode cX11_fatal 76 = .ok (.invokevirtual 214, 3) := by decide +kernel
theorem dX11_fatal_79 : decode cX11_fatal 79 = .ok (.istore 6, 2) := by decide +kernel
theorem dX11_fatal_81 : decode cX11_fatal 81 = .ok (.iload 6, 2) := by decide +kernel
theorem dX11_fatal_83 : decode cX11_fatal 83 = .ok (.iconst (-1), 1) := by decide +kernel
theorem dX11_fatal_84 : decode cX11_fatal 84 = .ok (.if_icmp .ne 5, 3) := by decide +kernel
theorem dX11_fatal_87 : decode cX11_fatal 87 = .ok (.iconst (-1), 1) := by decide +kernel
theorem dX11_fatal_88 : decode cX11_fatal 88 = .ok (.ireturn, 1) := by decide +kernel
theorem dX11_fatal_89 : decode cX11_fatal 89 = .ok (.iload 4, 2) := by decide +kernel
theorem dX11_fatal_91 : decode cX11_fatal 91 = .ok (.ifCond .eq 11, 3) := by decide +kernel
theorem dX11_fatal_94 : decode cX11_fatal 94 = .ok (.iload 6, 2) := by decide +kernel
theorem dX11_fatal_96 : decode cX11_fatal 96 = .ok (.bipush 10, 2) := by decide +kernel
theorem dX11_fatal_98 : decode cX11_fatal 98 = .ok (.irem, 1) := by decide +kernel
theorem dX11_fatal_99 : decode cX11_fatal 99 = .ok (.goto 8, 3) := by decide +kernel
theorem dX11_fatal_102 : decode cX11_fatal 102 = .ok (.iload 6, 2) := by decide +kernel
theorem dX11_fatal_104 : decode cX11_fatal 104 = .ok (.bipush 10, 2) := by decide +kernel
theorem dX11_fatal_106 : decode cX11_fatal 106 = .ok (.idiv, 1) := by decide +kernel
theorem dX11_fatal_107 : decode cX11_fatal 107 = .ok (.ireturn, 1) := by decide +kernel
theorem dX11_loses_0 : decode cX11_loses 0 = .ok (.aload_n 0, 1) := by decide +kernel
theorem dX11_loses_1 : decode cX11_loses 1 = .ok (.getfield 10, 3) := by decide +kernel
theorem dX11_loses_4 : decode cX11_loses 4 = .ok (.iload_n 2, 1) := by decide +kernel
theorem dX11_loses_5 : decode cX11_loses 5 = .ok (.invokevirtual 176, 3) := by decide +kernel
theorem dX11_loses_8 : decode cX11_loses 8 = .ok (.astore 4, 2) := by decide +kernel
theorem dX11_loses_10 : decode cX11_loses 10 = .ok (.aload 4, 2) := by decide +kernel
theorem dX11_loses_12 : decode cX11_loses 12 = .ok (.ifnull 36, 3) := by decide +kernel
theorem dX11_loses_15 : decode cX11_loses 15 = .ok (.aload 4, 2) := by decide +kernel
theorem dX11_loses_17 : decode cX11_loses 17 = .ok (.iload_n 3, 1) := by decide +kernel
theorem dX11_loses_18 : decode cX11_loses 18 = .ok (.invokevirtual 185, 3) := by decide +kernel
theorem dX11_loses_21 : decode cX11_loses 21 = .ok (.ifCond .eq 27, 3) := by decide +kernel
theorem dX11_loses_24 : decode cX11_loses 24 = .ok (.aload_n 0, 1) := by decide +kernel
theorem dX11_loses_25 : decode cX11_loses 25 = .ok (.getfield 41, 3) := by decide +kernel
theorem dX11_loses_28 : decode cX11_loses 28 = .ok (.aload_n 0, 1) := by decide +kernel
theorem dX11_loses_29 : decode cX11_loses 29 = .ok (.getfield 10, 3) := by decide +kernel
theorem dX11_loses_32 : decode cX11_loses 32 = .ok (.iload_n 1, 1) := by decide +kernel
theorem dX11_loses_33 : decode cX11_loses 33 = .ok (.invokevirtual 89, 3) := by decide +kernel
theorem dX11_loses_36 : decode cX11_loses 36 = .ok (.aload 4, 2) := by decide +kernel
theorem dX11_loses_38 : decode cX11_loses 38 = .ok (.iload_n 3, 1) := by decide +kernel
theorem dX11_loses_39 : decode cX11_loses 39 = .ok (.iconst 1, 1) := by decide +kernel
theorem dX11_loses_40 : decode cX11_loses 40 = .ok (.iadd, 1) := by decide +kernel
theorem dX11_loses_41 : decode cX11_loses 41 = .ok (.invokevirtual 190, 3) := by decide +kernel
theorem dX11_loses_44 : decode cX11_loses 44 = .ok (.iload_n 3, 1) := by decide +kernel
theorem dX11_loses_45 : decode cX11_loses 45 = .ok (.if_icmp .gt 5, 3) := by decide +kernel
theorem dX11_loses_48 : decode cX11_loses 48 = .ok (.iconst 0, 1) := by decide +kernel
theorem dX11_loses_49 : decode cX11_loses 49 = .ok (.ireturn, 1) := by decide +kernel
theorem dX11_loses_50 : decode cX11_loses 50 = .ok (.aload_n 0, 1) := by decide +kernel
theorem dX11_loses_51 : decode cX11_loses 51 = .ok (.getfield 41, 3) := by decide +kernel
theorem dX11_loses_54 : decode cX11_loses 54 = .ok (.aload_n 0, 1) := by decide +kernel
theorem dX11_loses_55 : decode cX11_loses 55 = .ok (.getfield 10, 3) := by decide +kernel
theorem dX11_loses_58 : decode cX11_loses 58 = .ok (.iload_n 1, 1) := by decide +kernel
theorem dX11_loses_59 : decode cX11_loses 59 = .ok (.invokevirtual 89, 3) := by decide +kernel
theorem dX11_loses_62 : decode cX11_loses 62 = .ok (.aload 4, 2) := by decide +kernel
theorem dX11_loses_64 : decode cX11_loses 64 = .ok (.iload_n 3, 1) := by decide +kernel
theorem dX11_loses_65 : decode cX11_loses 65 = .ok (.invokevirtual 190, 3) := by decide +kernel
theorem dX11_loses_68 : decode cX11_loses 68 = .ok (.pop, 1) := by decide +kernel
theorem dX11_loses_69 : decode cX11_loses 69 = .ok (.aload_n 0, 1) := by decide +kernel
theorem dX11_loses_70 : decode cX11_loses 70 = .ok (.getfield 41, 3) := by decide +kernel
theorem dX11_loses_73 : decode cX11_loses 73 = .ok (.aload 4, 2) := by decide +kernel
theorem dX11_loses_75 : decode cX11_loses 75 = .ok (.iload_n 3, 1) := by decide +kernel
theorem dX11_loses_76 : decode cX11_loses 76 = .ok (.invokevirtual 218, 3) := by decide +kernel
theorem dX11_loses_79 : decode cX11_loses 79 = .ok (.ireturn, 1) := by decide +kernel
theorem dX11_brave_0 : decode cX11_brave 0 = .ok (.aload_n 0, 1) := by decide +kernel
theorem dX11_brave_1 : decode cX11_brave 1 = .ok (.getfield 10, 3) := by decide +kernel
theorem dX11_brave_4 : decode cX11_brave 4 = .ok (.iload_n 2, 1) := by decide +kernel
theorem dX11_brave_5 : decode cX11_brave 5 = .ok (.invokevirtual 176, 3) := by decide +kernel
theorem dX11_brave_8 : decode cX11_brave 8 = .ok (.astore 4, 2) := by decide +kernel
theorem dX11_brave_10 : decode cX11_brave 10 = .ok (.aload 4, 2) := by decide +kernel
theorem dX11_brave_12 : decode cX11_brave 12 = .ok (.ifnull 12, 3) := by decide +kernel
theorem dX11_brave_15 : decode cX11_brave 15 = .ok (.iload_n 3, 1) := by decide +kernel
theorem dX11_brave_16 : decode cX11_brave 16 = .ok (.ifCond .lt 8, 3) := by decide +kernel
theorem dX11_brave_19 : decode cX11_brave 19 = .ok (.iload_n 3, 1) := by decide +kernel
theorem dX11_brave_20 : decode cX11_brave 20 = .ok (.iconst 1, 1) := by decide +kernel
theorem dX11_brave_21 : decode cX11_brave 21 = .ok (.if_icmp .le 5, 3) := by decide +kernel
theorem dX11_brave_24 : decode cX11_brave 24 = .ok (.iconst (-1), 1) := by decide +kernel
theorem dX11_brave_25 : decode cX11_brave 25 = .ok (.ireturn, 1) := by decide +kernel
theorem dX11_brave_26 : decode cX11_brave 26 = .ok (.aload_n 0, 1) := by decide +kernel
theorem dX11_brave_27 : decode cX11_brave 27 = .ok (.getfield 41, 3) := by decide +kernel
theorem dX11_brave_30 : decode cX11_brave 30 = .ok (.aload_n 0, 1) := by decide +kernel
theorem dX11_brave_31 : decode cX11_brave 31 = .ok (.getfield 10, 3) := by decide +kernel
theorem dX11_brave_34 : decode cX11_brave 34 = .ok (.iload_n 1, 1) := by decide +kernel
theorem dX11_brave_35 : decode cX11_brave 35 = .ok (.invokevirtual 89, 3) := by decide +kernel
theorem dX11_brave_38 : decode cX11_brave 38 = .ok (.aload 4, 2) := by decide +kernel
theorem dX11_brave_40 : decode cX11_brave 40 = .ok (.aload 4, 2) := by decide +kernel
theorem dX11_brave_42 : decode cX11_brave 42 = .ok (.getfield 180, 3) := by decide +kernel
theorem dX11_brave_45 : decode cX11_brave 45 = .ok (.invokevirtual 190, 3) := by decide +kernel
theorem dX11_brave_48 : decode cX11_brave 48 = .ok (.istore 5, 2) := by decide +kernel
theorem dX11_brave_50 : decode cX11_brave 50 = .ok (.iload 5, 2) := by decide +kernel
theorem dX11_brave_52 : decode cX11_brave 52 = .ok (.iconst (-1), 1) := by decide +kernel
theorem dX11_brave_53 : decode cX11_brave 53 = .ok (.if_icmp .ne 7, 3) := by decide +kernel
theorem dX11_brave_56 : decode cX11_brave 56 = .ok (.iconst (-1), 1) := by decide +kernel
theorem dX11_brave_57 : decode cX11_brave 57 = .ok (.goto 14, 3) := by decide +kernel
theorem dX11_brave_60 : decode cX11_brave 60 = .ok (.aload_n 0, 1) := by decide +kernel
theorem dX11_brave_61 : decode cX11_brave 61 = .ok (.getfield 41, 3) := by decide +kernel
theorem dX11_brave_64 : decode cX11_brave 64 = .ok (.getfield 193, 3) := by decide +kernel
theorem dX11_brave_67 : decode cX11_brave 67 = .ok (.iload_n 3, 1) := by decide +kernel
theorem dX11_brave_68 : decode cX11_brave 68 = .ok (.invokevirtual 222, 3) := by decide +kernel
theorem dX11_brave_71 : decode cX11_brave 71 = .ok (.ireturn, 1) := by decide +kernel
theorem dX11_binds_0 : decode cX11_binds 0 = .ok (.aload_n 0, 1) := by decide +kernel
theorem dX11_binds_1 : decode cX11_binds 1 = .ok (.getfield 10, 3) := by decide +kernel
theorem dX11_binds_4 : decode cX11_binds 4 = .ok (.iload_n 1, 1) := by decide +kernel
theorem dX11_binds_5 : decode cX11_binds 5 = .ok (.invokevirtual 89, 3) := by decide +kernel
theorem dX11_binds_8 : decode cX11_binds 8 = .ok (.astore 5, 2) := by decide +kernel
theorem dX11_binds_10 : decode cX11_binds 10 = .ok (.aload 5, 2) := by decide +kernel
theorem dX11_binds_12 : decode cX11_binds 12 = .ok (.ifnull 21, 3) := by decide +kernel
theorem dX11_binds_15 : decode cX11_binds 15 = .ok (.aload 5, 2) := by decide +kernel
theorem dX11_binds_17 : decode cX11_binds 17 = .ok (.iload_n 2, 1) := by decide +kernel
theorem dX11_binds_18 : decode cX11_binds 18 = .ok (.invokevirtual 129, 3) := by decide +kernel
theorem dX11_binds_21 : decode cX11_binds 21 = .ok (.ifCond .eq 12, 3) := by decide +kernel
theorem dX11_binds_24 : decode cX11_binds 24 = .ok (.iload_n 3, 1) := by decide +kernel
theorem dX11_binds_25 : decode cX11_binds 25 = .ok (.ifCond .lt 8, 3) := by decide +kernel
theorem dX11_binds_28 : decode cX11_binds 28 = .ok (.iload_n 3, 1) := by decide +kernel
theorem dX11_binds_29 : decode cX11_binds 29 = .ok (.iconst 2, 1) := by decide +kernel
theorem dX11_binds_30 : decode cX11_binds 30 = .ok (.if_icmp .le 5, 3) := by decide +kernel
theorem dX11_binds_33 : decode cX11_binds 33 = .ok (.iconst (-1), 1) := by decide +kernel
theorem dX11_binds_34 : decode cX11_binds 34 = .ok (.ireturn, 1) := by decide +kernel
theorem dX11_binds_35 : decode cX11_binds 35 = .ok (.aload_n 0, 1) := by decide +kernel
theorem dX11_binds_36 : decode cX11_binds 36 = .ok (.getfield 56, 3) := by decide +kernel
theorem dX11_binds_39 : decode cX11_binds 39 = .ok (.aload 5, 2) := by decide +kernel
theorem dX11_binds_41 : decode cX11_binds 41 = .ok (.aload 5, 2) := by decide +kernel
theorem dX11_binds_43 : decode cX11_binds 43 = .ok (.getfield 135, 3) := by decide +kernel
theorem dX11_binds_46 : decode cX11_binds 46 = .ok (.iload_n 2, 1) := by decide +kernel
theorem dX11_binds_47 : decode cX11_binds 47 = .ok (.iconst 4, 1) := by decide +kernel
theorem dX11_binds_48 : decode cX11_binds 48 = .ok (.invokevirtual 225, 3) := by decide +kernel
theorem dX11_binds_51 : decode cX11_binds 51 = .ok (.iload_n 3, 1) := by decide +kernel
theorem dX11_binds_52 : decode cX11_binds 52 = .ok (.ifCond .ne 17, 3) := by decide +kernel
theorem dX11_binds_55 : decode cX11_binds 55 = .ok (.aload_n 0, 1) := by decide +kernel
theorem dX11_binds_56 : decode cX11_binds 56 = .ok (.getfield 56, 3) := by decide +kernel
theorem dX11_binds_59 : decode cX11_binds 59 = .ok (.lconst 0, 1) := by decide +kernel
theorem dX11_binds_60 : decode cX11_binds 60 = .ok (.invokevirtual 231, 3) := by decide +kernel
theorem dX11_binds_63 : decode cX11_binds 63 = .ok (.iload 4, 2) := by decide +kernel
theorem dX11_binds_65 : decode cX11_binds 65 = .ok (.invokestatic 235, 3) := by decide +kernel
theorem dX11_binds_68 : decode cX11_binds 68 = .ok (.ireturn, 1) := by decide +kernel
theorem dX11_binds_69 : decode cX11_binds 69 = .ok (.aload_n 0, 1) := by decide +kernel
theorem dX11_binds_70 : decode cX11_binds 70 = .ok (.getfield 56, 3) := by decide +kernel
theorem dX11_binds_73 : decode cX11_binds 73 = .ok (.iload_n 3, 1) := by decide +kernel
theorem dX11_binds_74 : decode cX11_binds 74 = .ok (.iconst 1, 1) := by decide +kernel
theorem dX11_binds_75 : decode cX11_binds 75 = .ok (.if_icmp .ne 11, 3) := by decide +kernel
theorem dX11_binds_78 : decode cX11_binds 78 = .ok (.aload 5, 2) := by decide +kernel
theorem dX11_binds_80 : decode cX11_binds 80 = .ok (.getfield 114, 3) := by decide +kernel
theorem dX11_binds_83 : decode cX11_binds 83 = .ok (.goto 13, 3) := by decide +kernel
theorem dX11_binds_86 : decode cX11_binds 86 = .ok (.aload_n 0, 1) := by decide +kernel
theorem dX11_binds_87 : decode cX11_binds 87 = .ok (.getfield 56, 3) := by decide +kernel
theorem dX11_binds_90 : decode cX11_binds 90 = .ok (.getfield 238, 3) := by decide +kernel
theorem dX11_binds_93 : decode cX11_binds 93 = .ok (.getfield 242, 3) := by decide +kernel
theorem dX11_binds_96 : decode cX11_binds 96 = .ok (.invokevirtual 247, 3) := by decide +kernel
theorem dX11_binds_99 : decode cX11_binds 99 = .ok (.iload 4, 2) := by decide +kernel
theorem dX11_binds_101 : decode cX11_binds 101 = .ok (.invokestatic 235, 3) := by decide +kernel
theorem dX11_binds_104 : decode cX11_binds 104 = .ok (.ireturn, 1) := by decide +kernel
theorem dX11_drive_0 : decode cX11_drive 0 = .ok (.aload_n 0, 1) := by decide +kernel
theorem dX11_drive_1 : decode cX11_drive 1 = .ok (.getfield 10, 3) := by decide +kernel
theorem dX11_drive_4 : decode cX11_drive 4 = .ok (.iload_n 1, 1) := by decide +kernel
theorem dX11_drive_5 : decode cX11_drive 5 = .ok (.invokevirtual 89, 3) := by decide +kernel
theorem dX11_drive_8 : decode cX11_drive 8 = .ok (.astore 5, 2) := by decide +kernel
theorem dX11_drive_10 : decode cX11_drive 10 = .ok (.aload 5, 2) := by decide +kernel
theorem dX11_drive_12 : decode cX11_drive 12 = .ok (.ifnull 21, 3) := by decide +kernel
theorem dX11_drive_15 : decode cX11_drive 15 = .ok (.aload 5, 2) := by decide +kernel
theorem dX11_drive_17 : decode cX11_drive 17 = .ok (.iload_n 2, 1) := by decide +kernel
theorem dX11_drive_18 : decode cX11_drive 18 = .ok (.invokevirtual 129, 3) := by decide +kernel
theorem dX11_drive_21 : decode cX11_drive 21 = .ok (.ifCond .eq 12, 3) := by decide +kernel
theorem dX11_drive_24 : decode cX11_drive 24 = .ok (.aload 5, 2) := by decide +kernel
theorem dX11_drive_26 : decode cX11_drive 26 = .ok (.iload_n 3, 1) := by decide +kernel
theorem dX11_drive_27 : decode cX11_drive 27 = .ok (.invokevirtual 117, 3) := by decide +kernel
theorem dX11_drive_30 : decode cX11_drive 30 = .ok (.ifCond .ne 5, 3) := by decide +kernel
theorem dX11_drive_33 : decode cX11_drive 33 = .ok (.iconst (-1), 1) := by decide +kernel
theorem dX11_drive_34 : decode cX11_drive 34 = .ok (.ireturn, 1) := by decide +kernel
theorem dX11_drive_35 : decode cX11_drive 35 = .ok (.aload_n 0, 1) := by decide +kernel
theorem dX11_drive_36 : decode cX11_drive 36 = .ok (.getfield 56, 3) := by decide +kernel
theorem dX11_drive_39 : decode cX11_drive 39 = .ok (.aload 5, 2) := by decide +kernel
theorem dX11_drive_41 : decode cX11_drive 41 = .ok (.aload 5, 2) := by decide +kernel
theorem dX11_drive_43 : decode cX11_drive 43 = .ok (.getfield 135, 3) := by decide +kernel
theorem dX11_drive_46 : decode cX11_drive 46 = .ok (.iload_n 2, 1) := by decide +kernel
theorem dX11_drive_47 : decode cX11_drive 47 = .ok (.iconst 4, 1) := by decide +kernel
theorem dX11_drive_48 : decode cX11_drive 48 = .ok (.invokevirtual 225, 3) := by decide +kernel
theorem dX11_drive_51 : decode cX11_drive 51 = .ok (.aload_n 0, 1) := by decide +kernel
theorem dX11_drive_52 : decode cX11_drive 52 = .ok (.getfield 56, 3) := by decide +kernel
theorem dX11_drive_55 : decode cX11_drive 55 = .ok (.iload_n 3, 1) := by decide +kernel
theorem dX11_drive_56 : decode cX11_drive 56 = .ok (.invokestatic 250, 3) := by decide +kernel
theorem dX11_drive_59 : decode cX11_drive 59 = .ok (.invokevirtual 231, 3) := by decide +kernel
theorem dX11_drive_62 : decode cX11_drive 62 = .ok (.iload 4, 2) := by decide +kernel
theorem dX11_drive_64 : decode cX11_drive 64 = .ok (.invokestatic 235, 3) := by decide +kernel
theorem dX11_drive_67 : decode cX11_drive 67 = .ok (.ireturn, 1) := by decide +kernel
theorem dX11_shorter_0 : decode cX11_shorter 0 = .ok (.aload_n 0, 1) := by decide +kernel
theorem dX11_shorter_1 : decode cX11_shorter 1 = .ok (.getfield 10, 3) := by decide +kernel
theorem dX11_shorter_4 : decode cX11_shorter 4 = .ok (.iload_n 1, 1) := by decide +kernel
theorem dX11_shorter_5 : decode cX11_shorter 5 = .ok (.invokevirtual 89, 3) := by decide +kernel
theorem dX11_shorter_8 : decode cX11_shorter 8 = .ok (.astore 5, 2) := by decide +kernel
theorem dX11_shorter_10 : decode cX11_shorter 10 = .ok (.aload 5, 2) := by decide +kernel
theorem dX11_shorter_12 : decode cX11_shorter 12 = .ok (.ifnull 23, 3) := by decide +kernel
theorem dX11_shorter_15 : decode cX11_shorter 15 = .ok (.aload 5, 2) := by decide +kernel
theorem dX11_shorter_17 : decode cX11_shorter 17 = .ok (.iload_n 2, 1) := by decide +kernel
theorem dX11_shorter_18 : decode cX11_shorter 18 = .ok (.invokevirtual 129, 3) := by decide +kernel
theorem dX11_shorter_21 : decode cX11_shorter 21 = .ok (.ifCond .eq 14, 3) := by decide +kernel
theorem dX11_shorter_24 : decode cX11_shorter 24 = .ok (.aload_n 0, 1) := by decide +kernel
theorem dX11_shorter_25 : decode cX11_shorter 25 = .ok (.getfield 10, 3) := by decide +kernel
theorem dX11_shorter_28 : decode cX11_shorter 28 = .ok (.iload_n 3, 1) := by decide +kernel
theorem dX11_shorter_29 : decode cX11_shorter 29 = .ok (.invokevirtual 138, 3) := by decide +kernel
theorem dX11_shorter_32 : decode cX11_shorter 32 = .ok (.ifCond .ne 5, 3) := by decide +kernel
theorem dX11_shorter_35 : decode cX11_shorter 35 = .ok (.iconst (-1), 1) := by decide +kernel
theorem dX11_shorter_36 : decode cX11_shorter 36 = .ok (.ireturn, 1) := by decide +kernel
theorem dX11_shorter_37 : decode cX11_shorter 37 = .ok (.aload_n 0, 1) := by decide +kernel
theorem dX11_shorter_38 : decode cX11_shorter 38 = .ok (.getfield 41, 3) := by decide +kernel
theorem dX11_shorter_41 : decode cX11_shorter 41 = .ok (.aload 5, 2) := by decide +kernel
theorem dX11_shorter_43 : decode cX11_shorter 43 = .ok (.iload_n 2, 1) := by decide +kernel
theorem dX11_shorter_44 : decode cX11_shorter 44 = .ok (.aload_n 0, 1) := by decide +kernel
theorem dX11_shorter_45 : decode cX11_shorter 45 = .ok (.getfield 10, 3) := by decide +kernel
theorem dX11_shorter_48 : decode cX11_shorter 48 = .ok (.getfield 141, 3) := by decide +kernel
theorem dX11_shorter_51 : decode cX11_shorter 51 = .ok (.iload_n 3, 1) := by decide +kernel
theorem dX11_shorter_52 : decode cX11_shorter 52 = .ok (.laload, 1) := by decide +kernel
theorem dX11_shorter_53 : decode cX11_shorter 53 = .ok (.invokevirtual 154, 3) := by decide +kernel
theorem dX11_shorter_56 : decode cX11_shorter 56 = .ok (.lstore 6, 2) := by decide +kernel
theorem dX11_shorter_58 : decode cX11_shorter 58 = .ok (.aload_n 0, 1) := by decide +kernel
theorem dX11_shorter_59 : decode cX11_shorter 59 = .ok (.getfield 56, 3) := by decide +kernel
theorem dX11_shorter_62 : decode cX11_shorter 62 = .ok (.aload 5, 2) := by decide +kernel
theorem dX11_shorter_64 : decode cX11_shorter 64 = .ok (.aload 5, 2) := by decide +kernel
theorem dX11_shorter_66 : decode cX11_shorter 66 = .ok (.getfield 135, 3) := by decide +kernel
theorem dX11_shorter_69 : decode cX11_shorter 69 = .ok (.iload_n 2, 1) := by decide +kernel
theorem dX11_shorter_70 : decode cX11_shorter 70 = .ok (.iconst 4, 1) := by decide +kernel
theorem dX11_shorter_71 : decode cX11_shorter 71 = .ok (.invokevirtual 225, 3) := by decide +kernel
theorem dX11_shorter_74 : decode cX11_shorter 74 = .ok (.aload_n 0, 1) := by decide +kernel
theorem dX11_shorter_75 : decode cX11_shorter 75 = .ok (.getfield 56, 3) := by decide +kernel
theorem dX11_shorter_78 : decode cX11_shorter 78 = .ok (.lload 6, 2) := by decide +kernel
theorem dX11_shorter_80 : decode cX11_shorter 80 = .ok (.invokevirtual 231, 3) := by decide +kernel
theorem dX11_shorter_83 : decode cX11_shorter 83 = .ok (.iload 4, 2) := by decide +kernel
theorem dX11_shorter_85 : decode cX11_shorter 85 = .ok (.invokestatic 235, 3) := by decide +kernel
theorem dX11_shorter_88 : decode cX11_shorter 88 = .ok (.ireturn, 1) := by decide +kernel
theorem dX11_alike_0 : decode cX11_alike 0 = .ok (.aload_n 0, 1) := by decide +kernel
theorem dX11_alike_1 : decode cX11_alike 1 = .ok (.getfield 10, 3) := by decide +kernel
theorem dX11_alike_4 : decode cX11_alike 4 = .ok (.iload_n 1, 1) := by decide +kernel
theorem dX11_alike_5 : decode cX11_alike 5 = .ok (.invokevirtual 89, 3) := by decide +kernel
theorem dX11_alike_8 : decode cX11_alike 8 = .ok (.astore 4, 2) := by decide +kernel
theorem dX11_alike_10 : decode cX11_alike 10 = .ok (.aload 4, 2) := by decide +kernel
theorem dX11_alike_12 : decode cX11_alike 12 = .ok (.ifnull 25, 3) := by decide +kernel
theorem dX11_alike_15 : decode cX11_alike 15 = .ok (.aload_n 0, 1) := by decide +kernel
theorem dX11_alike_16 : decode cX11_alike 16 = .ok (.getfield 10, 3) := by decide +kernel
theorem dX11_alike_19 : decode cX11_alike 19 = .ok (.iload_n 2, 1) := by decide +kernel
theorem dX11_alike_20 : decode cX11_alike 20 = .ok (.invokevirtual 138, 3) := by decide +kernel
theorem dX11_alike_23 : decode cX11_alike 23 = .ok (.ifCond .eq 14, 3) := by decide +kernel
theorem dX11_alike_26 : decode cX11_alike 26 = .ok (.aload_n 0, 1) := by decide +kernel
theorem dX11_alike_27 : decode cX11_alike 27 = .ok (.getfield 10, 3) := by decide +kernel
theorem dX11_alike_30 : decode cX11_alike 30 = .ok (.iload_n 3, 1) := by decide +kernel
theorem dX11_alike_31 : decode cX11_alike 31 = .ok (.invokevirtual 138, 3) := by decide +kernel
theorem dX11_alike_34 : decode cX11_alike 34 = .ok (.ifCond .ne 5, 3) := by decide +kernel
theorem dX11_alike_37 : decode cX11_alike 37 = .ok (.iconst 0, 1) := by decide +kernel
theorem dX11_alike_38 : decode cX11_alike 38 = .ok (.ireturn, 1) := by decide +kernel
theorem dX11_alike_39 : decode cX11_alike 39 = .ok (.aload_n 0, 1) := by decide +kernel
theorem dX11_alike_40 : decode cX11_alike 40 = .ok (.getfield 41, 3) := by decide +kernel
theorem dX11_alike_43 : decode cX11_alike 43 = .ok (.aload 4, 2) := by decide +kernel
theorem dX11_alike_45 : decode cX11_alike 45 = .ok (.aload_n 0, 1) := by decide +kernel
theorem dX11_alike_46 : decode cX11_alike 46 = .ok (.getfield 10, 3) := by decide +kernel
theorem dX11_alike_49 : decode cX11_alike 49 = .ok (.getfield 141, 3) := by decide +kernel
theorem dX11_alike_52 : decode cX11_alike 52 = .ok (.iload_n 2, 1) := by decide +kernel
theorem dX11_alike_53 : decode cX11_alike 53 = .ok (.laload, 1) := by decide +kernel
theorem dX11_alike_54 : decode cX11_alike 54 = .ok (.aload_n 0, 1) := by decide +kernel
theorem dX11_alike_55 : decode cX11_alike 55 = .ok (.getfield 10, 3) := by decide +kernel
theorem dX11_alike_58 : decode cX11_alike 58 = .ok (.getfield 141, 3) := by decide +kernel
theorem dX11_alike_61 : decode cX11_alike 61 = .ok (.iload_n 3, 1) := by decide +kernel
theorem dX11_alike_62 : decode cX11_alike 62 = .ok (.laload, 1) := by decide +kernel
theorem dX11_alike_63 : decode cX11_alike 63 = .ok (.invokevirtual 253, 3) := by decide +kernel
theorem dX11_alike_66 : decode cX11_alike 66 = .ok (.ireturn, 1) := by decide +kernel
theorem dX11_meanings_0 : decode cX11_meanings 0 = .ok (.aload_n 0, 1) := by decide +kernel
theorem dX11_meanings_1 : decode cX11_meanings 1 = .ok (.getfield 10, 3) := by decide +kernel
theorem dX11_meanings_4 : decode cX11_meanings 4 = .ok (.iload_n 1, 1) := by decide +kernel
theorem dX11_meanings_5 : decode cX11_meanings 5 = .ok (.invokevirtual 89, 3) := by decide +kernel
theorem dX11_meanings_8 : decode cX11_meanings 8 = .ok (.astore 5, 2) := by decide +kernel
theorem dX11_meanings_10 : decode cX11_meanings 10 = .ok (.aload 5, 2) := by decide +kernel
theorem dX11_meanings_12 : decode cX11_meanings 12 = .ok (.ifnull 22, 3) := by decide +kernel
theorem dX11_meanings_15 : decode cX11_meanings 15 = .ok (.aload 5, 2) := by decide +kernel
theorem dX11_meanings_17 : decode cX11_meanings 17 = .ok (.iload_n 2, 1) := by decide +kernel
theorem dX11_meanings_18 : decode cX11_meanings 18 = .ok (.invokevirtual 129, 3) := by decide +kernel
theorem dX11_meanings_21 : decode cX11_meanings 21 = .ok (.ifCond .eq 13, 3) := by decide +kernel
theorem dX11_meanings_24 : decode cX11_meanings 24 = .ok (.iload_n 3, 1) := by decide +kernel
theorem dX11_meanings_25 : decode cX11_meanings 25 = .ok (.iconst 1, 1) := by decide +kernel
theorem dX11_meanings_26 : decode cX11_meanings 26 = .ok (.if_icmp .lt 8, 3) := by decide +kernel
theorem dX11_meanings_29 : decode cX11_meanings 29 = .ok (.iload_n 3, 1) := by decide +kernel
theorem dX11_meanings_30 : decode cX11_meanings 30 = .ok (.iconst 4, 1) := by decide +kernel
theorem dX11_meanings_31 : decode cX11_meanings 31 = .ok (.if_icmp .le 5, 3) := by decide +kernel
theorem dX11_meanings_34 : decode cX11_meanings 34 = .ok (.iconst (-1), 1) := by decide +kernel
theorem dX11_meanings_35 : decode cX11_meanings 35 = .ok (.ireturn, 1) := by decide +kernel
theorem dX11_meanings_36 : decode cX11_meanings 36 = .ok (.aload_n 0, 1) := by decide +kernel
theorem dX11_meanings_37 : decode cX11_meanings 37 = .ok (.getfield 56, 3) := by decide +kernel
theorem dX11_meanings_40 : decode cX11_meanings 40 = .ok (.aload 5, 2) := by decide +kernel
theorem dX11_meanings_42 : decode cX11_meanings 42 = .ok (.aload 5, 2) := by decide +kernel
theorem dX11_meanings_44 : decode cX11_meanings 44 = .ok (.getfield 135, 3) := by decide +kernel
theorem dX11_meanings_47 : decode cX11_meanings 47 = .ok (.iload_n 2, 1) := by decide +kernel
theorem dX11_meanings_48 : decode cX11_meanings 48 = .ok (.iload_n 3, 1) := by decide +kernel
theorem dX11_meanings_49 : decode cX11_meanings 49 = .ok (.invokevirtual 225, 3) := by decide +kernel
theorem dX11_meanings_52 : decode cX11_meanings 52 = .ok (.iload 4, 2) := by decide +kernel
theorem dX11_meanings_54 : decode cX11_meanings 54 = .ok (.ifCond .eq 16, 3) := by decide +kernel
theorem dX11_meanings_57 : decode cX11_meanings 57 = .ok (.aload_n 0, 1) := by decide +kernel
theorem dX11_meanings_58 : decode cX11_meanings 58 = .ok (.getfield 56, 3) := by decide +kernel
theorem dX11_meanings_61 : decode cX11_meanings 61 = .ok (.invokevirtual 257, 3) := by decide +kernel
theorem dX11_meanings_64 : decode cX11_meanings 64 = .ok (.invokestatic 108, 3) := by decide +kernel
theorem dX11_meanings_67 : decode cX11_meanings 67 = .ok (.goto 10, 3) := by decide +kernel
theorem dX11_meanings_70 : decode cX11_meanings 70 = .ok (.aload_n 0, 1) := by decide +kernel
theorem dX11_meanings_71 : decode cX11_meanings 71 = .ok (.getfield 56, 3) := by decide +kernel
theorem dX11_meanings_74 : decode cX11_meanings 74 = .ok (.invokevirtual 261, 3) := by decide +kernel
theorem dX11_meanings_77 : decode cX11_meanings 77 = .ok (.ireturn, 1) := by decide +kernel
theorem dX11_wins_0 : decode cX11_wins 0 = .ok (.aload_n 0, 1) := by decide +kernel
theorem dX11_wins_1 : decode cX11_wins 1 = .ok (.getfield 10, 3) := by decide +kernel
theorem dX11_wins_4 : decode cX11_wins 4 = .ok (.iload_n 1, 1) := by decide +kernel
theorem dX11_wins_5 : decode cX11_wins 5 = .ok (.invokevirtual 89, 3) := by decide +kernel
theorem dX11_wins_8 : decode cX11_wins 8 = .ok (.astore 6, 2) := by decide +kernel
theorem dX11_wins_10 : decode cX11_wins 10 = .ok (.aload 6, 2) := by decide +kernel
theorem dX11_wins_12 : decode cX11_wins 12 = .ok (.iload_n 2, 1) := by decide +kernel
theorem dX11_wins_13 : decode cX11_wins 13 = .ok (.iload_n 3, 1) := by decide +kernel
theorem dX11_wins_14 : decode cX11_wins 14 = .ok (.invokestatic 265, 3) := by decide +kernel
theorem dX11_wins_17 : decode cX11_wins 17 = .ok (.ifCond .eq 26, 3) := by decide +kernel
theorem dX11_wins_20 : decode cX11_wins 20 = .ok (.iload 4, 2) := by decide +kernel
theorem dX11_wins_22 : decode cX11_wins 22 = .ok (.iconst 1, 1) := by decide +kernel
theorem dX11_wins_23 : decode cX11_wins 23 = .ok (.if_icmp .lt 20, 3) := by decide +kernel
theorem dX11_wins_26 : decode cX11_wins 26 = .ok (.iload 4, 2) := by decide +kernel
theorem dX11_wins_28 : decode cX11_wins 28 = .ok (.iconst 3, 1) := by decide +kernel
theorem dX11_wins_29 : decode cX11_wins 29 = .ok (.if_icmp .gt 14, 3) := by decide +kernel
theorem dX11_wins_32 : decode cX11_wins 32 = .ok (.iload 5, 2) := by decide +kernel
theorem dX11_wins_34 : decode cX11_wins 34 = .ok (.ifCond .lt 9, 3) := by decide +kernel
theorem dX11_wins_37 : decode cX11_wins 37 = .ok (.iload 5, 2) := by decide +kernel
theorem dX11_wins_39 : decode cX11_wins 39 = .ok (.iconst 3, 1) := by decide +kernel
theorem dX11_wins_40 : decode cX11_wins 40 = .ok (.if_icmp .le 6, 3) := by decide +kernel
theorem dX11_wins_43 : decode cX11_wins 43 = .ok (.bipush (-2), 2) := by decide +kernel
theorem dX11_wins_45 : decode cX11_wins 45 = .ok (.ireturn, 1) := by decide +kernel
theorem dX11_wins_46 : decode cX11_wins 46 = .ok (.aload_n 0, 1) := by decide +kernel
theorem dX11_wins_47 : decode cX11_wins 47 = .ok (.getfield 48, 3) := by decide +kernel
theorem dX11_wins_50 : decode cX11_wins 50 = .ok (.aload 6, 2) := by decide +kernel
theorem dX11_wins_52 : decode cX11_wins 52 = .ok (.iload_n 2, 1) := by decide +kernel
theorem dX11_wins_53 : decode cX11_wins 53 = .ok (.iload_n 3, 1) := by decide +kernel
theorem dX11_wins_54 : decode cX11_wins 54 = .ok (.iload 4, 2) := by decide +kernel
theorem dX11_wins_56 : decode cX11_wins 56 = .ok (.invokevirtual 269, 3) := by decide +kernel
theorem dX11_wins_59 : decode cX11_wins 59 = .ok (.istore 7, 2) := by decide +kernel
theorem dX11_wins_61 : decode cX11_wins 61 = .ok (.iload 5, 2) := by decide +kernel
theorem dX11_wins_63 : decode cX11_wins 63 = .ok (.ifCond .ne 14, 3) := by decide +kernel
theorem dX11_wins_66 : decode cX11_wins 66 = .ok (.iload 7, 2) := by decide +kernel
theorem dX11_wins_68 : decode cX11_wins 68 = .ok (.ifCond .eq 7, 3) := by decide +kernel
theorem dX11_wins_71 : decode cX11_wins 71 = .ok (.iconst 1, 1) := by decide +kernel
theorem dX11_wins_72 : decode cX11_wins 72 = .ok (.goto 4, 3) := by decide +kernel
theorem dX11_wins_75 : decode cX11_wins 75 = .ok (.iconst 0, 1) := by decide +kernel
theorem dX11_wins_76 : decode cX11_wins 76 = .ok (.ireturn, 1) := by decide +kernel
theorem dX11_wins_77 : decode cX11_wins 77 = .ok (.iload 7, 2) := by decide +kernel
theorem dX11_wins_79 : decode cX11_wins 79 = .ok (.ifCond .eq 22, 3) := by decide +kernel
theorem dX11_wins_82 : decode cX11_wins 82 = .ok (.aload_n 0, 1) := by decide +kernel
theorem dX11_wins_83 : decode cX11_wins 83 = .ok (.getfield 48, 3) := by decide +kernel
theorem dX11_wins_86 : decode cX11_wins 86 = .ok (.iload 4, 2) := by decide +kernel
theorem dX11_wins_88 : decode cX11_wins 88 = .ok (.invokevirtual 273, 3) := by decide +kernel
theorem dX11_wins_91 : decode cX11_wins 91 = .ok (.iload 5, 2) := by decide +kernel
theorem dX11_wins_93 : decode cX11_wins 93 = .ok (.iconst 1, 1) := by decide +kernel
theorem dX11_wins_94 : decode cX11_wins 94 = .ok (.isub, 1) := by decide +kernel
theorem dX11_wins_95 : decode cX11_wins 95 = .ok (.invokestatic 235, 3) := by decide +kernel
theorem dX11_wins_98 : decode cX11_wins 98 = .ok (.goto 4, 3) := by decide +kernel
theorem dX11_wins_101 : decode cX11_wins 101 = .ok (.iconst (-1), 1) := by decide +kernel
theorem dX11_wins_102 : decode cX11_wins 102 = .ok (.ireturn, 1) := by decide +kernel
theorem dX11_soonest_0 : decode cX11_soonest 0 = .ok (.aload_n 0, 1) := by decide +kernel
theorem dX11_soonest_1 : decode cX11_soonest 1 = .ok (.getfield 10, 3) := by decide +kernel
theorem dX11_soonest_4 : decode cX11_soonest 4 = .ok (.iload_n 1, 1) := by decide +kernel
theorem dX11_soonest_5 : decode cX11_soonest 5 = .ok (.invokevirtual 89, 3) := by decide +kernel
theorem dX11_soonest_8 : decode cX11_soonest 8 = .ok (.astore 4, 2) := by decide +kernel
theorem dX11_soonest_10 : decode cX11_soonest 10 = .ok (.aload 4, 2) := by decide +kernel
theorem dX11_soonest_12 : decode cX11_soonest 12 = .ok (.iload_n 2, 1) := by decide +kernel
theorem dX11_soonest_13 : decode cX11_soonest 13 = .ok (.iload_n 3, 1) := by decide +kernel
theorem dX11_soonest_14 : decode cX11_soonest 14 = .ok (.invokestatic 265, 3) := by decide +kernel
theorem dX11_soonest_17 : decode cX11_soonest 17 = .ok (.ifCond .ne 5, 3) := by decide +kernel
theorem dX11_soonest_20 : decode cX11_soonest 20 = .ok (.iconst (-1), 1) := by decide +kernel
theorem dX11_soonest_21 : decode cX11_soonest 21 = .ok (.ireturn, 1) := by decide +kernel
theorem dX11_soonest_22 : decode cX11_soonest 22 = .ok (.iconst 1, 1) := by decide +kernel
theorem dX11_soonest_23 : decode cX11_soonest 23 = .ok (.istore 5, 2) := by decide +kernel
theorem dX11_soonest_25 : decode cX11_soonest 25 = .ok (.iload 5, 2) := by decide +kernel
theorem dX11_soonest_27 : decode cX11_soonest 27 = .ok (.iconst 3, 1) := by decide +kernel
theorem dX11_soonest_28 : decode cX11_soonest 28 = .ok (.if_icmp .gt 28, 3) := by decide +kernel
theorem dX11_soonest_31 : decode cX11_soonest 31 = .ok (.aload_n 0, 1) := by decide +kernel
theorem dX11_soonest_32 : decode cX11_soonest 32 = .ok (.getfield 48, 3) := by decide +kernel
theorem dX11_soonest_35 : decode cX11_soonest 35 = .ok (.aload 4, 2) := by decide +kernel
theorem dX11_soonest_37 : decode cX11_soonest 37 = .ok (.iload_n 2, 1) := by decide +kernel
theorem dX11_soonest_38 : decode cX11_soonest 38 = .ok (.iload_n 3, 1) := by decide +kernel
theorem dX11_soonest_39 : decode cX11_soonest 39 = .ok (.iload 5, 2) := by decide +kernel
theorem dX11_soonest_41 : decode cX11_soonest 41 = .ok (.invokevirtual 269, 3) := by decide +kernel
theorem dX11_soonest_44 : decode cX11_soonest 44 = .ok (.ifCond .eq 6, 3) := by decide +kernel
theorem dX11_soonest_47 : decode cX11_soonest 47 = .ok (.iload 5, 2) := by decide +kernel
theorem dX11_soonest_49 : decode cX11_soonest 49 = .ok (.ireturn, 1) := by decide +kernel
theorem dX11_soonest_50 : decode cX11_soonest 50 = .ok (.iinc 5 1, 3) := by decide +kernel
theorem dX11_soonest_53 : decode cX11_soonest 53 = .ok (.goto (-28), 3) := by decide +kernel
theorem dX11_soonest_56 : decode cX11_soonest 56 = .ok (.iconst (-1), 1) := by decide +kernel
theorem dX11_soonest_57 : decode cX11_soonest 57 = .ok (.ireturn, 1) := by decide +kernel
theorem dX11_drawn_0 : decode cX11_drawn 0 = .ok (.aload_n 0, 1) := by decide +kernel
theorem dX11_drawn_1 : decode cX11_drawn 1 = .ok (.getfield 10, 3) := by decide +kernel
theorem dX11_drawn_4 : decode cX11_drawn 4 = .ok (.iload_n 1, 1) := by decide +kernel
theorem dX11_drawn_5 : decode cX11_drawn 5 = .ok (.invokevirtual 89, 3) := by decide +kernel
theorem dX11_drawn_8 : decode cX11_drawn 8 = .ok (.astore 5, 2) := by decide +kernel
theorem dX11_drawn_10 : decode cX11_drawn 10 = .ok (.aload 5, 2) := by decide +kernel
theorem dX11_drawn_12 : decode cX11_drawn 12 = .ok (.ifnull 14, 3) := by decide +kernel
theorem dX11_drawn_15 : decode cX11_drawn 15 = .ok (.iload_n 3, 1) := by decide +kernel
theorem dX11_drawn_16 : decode cX11_drawn 16 = .ok (.iconst 1, 1) := by decide +kernel
theorem dX11_drawn_17 : decode cX11_drawn 17 = .ok (.if_icmp .lt 9, 3) := by decide +kernel
theorem dX11_drawn_20 : decode cX11_drawn 20 = .ok (.iload_n 3, 1) := by decide +kernel
theorem dX11_drawn_21 : decode cX11_drawn 21 = .ok (.bipush 30, 2) := by decide +kernel
theorem dX11_drawn_23 : decode cX11_drawn 23 = .ok (.if_icmp .le 6, 3) := by decide +kernel
theorem dX11_drawn_26 : decode cX11_drawn 26 = .ok (.bipush (-2), 2) := by decide +kernel
theorem dX11_drawn_28 : decode cX11_drawn 28 = .ok (.ireturn, 1) := by decide +kernel
theorem dX11_drawn_29 : decode cX11_drawn 29 = .ok (.aload_n 0, 1) := by decide +kernel
theorem dX11_drawn_30 : decode cX11_drawn 30 = .ok (.getfield 41, 3) := by decide +kernel
theorem dX11_drawn_33 : decode cX11_drawn 33 = .ok (.aload 5, 2) := by decide +kernel
theorem dX11_drawn_35 : decode cX11_drawn 35 = .ok (.iload_n 2, 1) := by decide +kernel
theorem dX11_drawn_36 : decode cX11_drawn 36 = .ok (.iload_n 3, 1) := by decide +kernel
theorem dX11_drawn_37 : decode cX11_drawn 37 = .ok (.invokevirtual 276, 3) := by decide +kernel
theorem dX11_drawn_40 : decode cX11_drawn 40 = .ok (.istore 6, 2) := by decide +kernel
theorem dX11_drawn_42 : decode cX11_drawn 42 = .ok (.iload 4, 2) := by decide +kernel
theorem dX11_drawn_44 : decode cX11_drawn 44 = .ok (.bipush 30, 2) := by decide +kernel
theorem dX11_drawn_46 : decode cX11_drawn 46 = .ok (.if_icmp .ne 8, 3) := by decide +kernel
theorem dX11_drawn_49 : decode cX11_drawn 49 = .ok (.iload 6, 2) := by decide +kernel
theorem dX11_drawn_51 : decode cX11_drawn 51 = .ok (.goto 15, 3) := by decide +kernel
theorem dX11_drawn_54 : decode cX11_drawn 54 = .ok (.aload_n 0, 1) := by decide +kernel
theorem dX11_drawn_55 : decode cX11_drawn 55 = .ok (.getfield 41, 3) := by decide +kernel
theorem dX11_drawn_58 : decode cX11_drawn 58 = .ok (.getfield 193, 3) := by decide +kernel
theorem dX11_drawn_61 : decode cX11_drawn 61 = .ok (.iload 4, 2) := by decide +kernel
theorem dX11_drawn_63 : decode cX11_drawn 63 = .ok (.invokevirtual 197, 3) := by decide +kernel
theorem dX11_drawn_66 : decode cX11_drawn 66 = .ok (.ireturn, 1) := by decide +kernel
theorem dX11_count_0 : decode cX11_count 0 = .ok (.iload_n 1, 1) := by decide +kernel
theorem dX11_count_1 : decode cX11_count 1 = .ok (.ifCond .lt 20, 3) := by decide +kernel
theorem dX11_count_4 : decode cX11_count 4 = .ok (.iload_n 1, 1) := by decide +kernel
theorem dX11_count_5 : decode cX11_count 5 = .ok (.iconst 3, 1) := by decide +kernel
theorem dX11_count_6 : decode cX11_count 6 = .ok (.if_icmp .ge 15, 3) := by decide +kernel
theorem dX11_count_9 : decode cX11_count 9 = .ok (.aload_n 0, 1) := by decide +kernel
theorem dX11_count_10 : decode cX11_count 10 = .ok (.getfield 10, 3) := by decide +kernel
theorem dX11_count_13 : decode cX11_count 13 = .ok (.getfield 280, 3) := by decide +kernel
theorem dX11_count_16 : decode cX11_count 16 = .ok (.iload_n 1, 1) := by decide +kernel
theorem dX11_count_17 : decode cX11_count 17 = .ok (.iaload, 1) := by decide +kernel
theorem dX11_count_18 : decode cX11_count 18 = .ok (.goto 5, 3) := by decide +kernel
theorem dX11_count_21 : decode cX11_count 21 = .ok (.bipush (-2), 2) := by decide +kernel
theorem dX11_count_23 : decode cX11_count 23 = .ok (.ireturn, 1) := by decide +kernel
theorem dX11_image_0 : decode cX11_image 0 = .ok (.iload_n 1, 1) := by decide +kernel
theorem dX11_image_1 : decode cX11_image 1 = .ok (.ifCond .lt 8, 3) := by decide +kernel
theorem dX11_image_4 : decode cX11_image 4 = .ok (.iload_n 1, 1) := by decide +kernel
theorem dX11_image_5 : decode cX11_image 5 = .ok (.iconst 3, 1) := by decide +kernel
theorem dX11_image_6 : decode cX11_image 6 = .ok (.if_icmp .lt 5, 3) := by decide +kernel
theorem dX11_image_9 : decode cX11_image 9 = .ok (.iconst 0, 1) := by decide +kernel
theorem dX11_image_10 : decode cX11_image 10 = .ok (.ireturn, 1) := by decide +kernel
theorem dX11_image_11 : decode cX11_image 11 = .ok (.aload_n 0, 1) := by decide +kernel
theorem dX11_image_12 : decode cX11_image 12 = .ok (.getfield 16, 3) := by decide +kernel
theorem dX11_image_15 : decode cX11_image 15 = .ok (.iload_n 1, 1) := by decide +kernel
theorem dX11_image_16 : decode cX11_image 16 = .ok (.aaload, 1) := by decide +kernel
theorem dX11_image_17 : decode cX11_image 17 = .ok (.aload_n 0, 1) := by decide +kernel
theorem dX11_image_18 : decode cX11_image 18 = .ok (.getfield 10, 3) := by decide +kernel
theorem dX11_image_21 : decode cX11_image 21 = .ok (.invokevirtual 283, 3) := by decide +kernel
theorem dX11_image_24 : decode cX11_image 24 = .ok (.aload_n 0, 1) := by decide +kernel
theorem dX11_image_25 : decode cX11_image 25 = .ok (.getfield 20, 3) := by decide +kernel
theorem dX11_image_28 : decode cX11_image 28 = .ok (.iload_n 1, 1) := by decide +kernel
theorem dX11_image_29 : decode cX11_image 29 = .ok (.iconst 1, 1) := by decide +kernel
theorem dX11_image_30 : decode cX11_image 30 = .ok (.bastore, 1) := by decide +kernel
theorem dX11_image_31 : decode cX11_image 31 = .ok (.iconst 1, 1) := by decide +kernel
theorem dX11_image_32 : decode cX11_image 32 = .ok (.ireturn, 1) := by decide +kernel
theorem dX11_again_0 : decode cX11_again 0 = .ok (.iload_n 1, 1) := by decide +kernel
theorem dX11_again_1 : decode cX11_again 1 = .ok (.ifCond .lt 17, 3) := by decide +kernel
theorem dX11_again_4 : decode cX11_again 4 = .ok (.iload_n 1, 1) := by decide +kernel
theorem dX11_again_5 : decode cX11_again 5 = .ok (.iconst 3, 1) := by decide +kernel
theorem dX11_again_6 : decode cX11_again 6 = .ok (.if_icmp .ge 12, 3) := by decide +kernel
theorem dX11_again_9 : decode cX11_again 9 = .ok (.aload_n 0, 1) := by decide +kernel
theorem dX11_again_10 : decode cX11_again 10 = .ok (.getfield 20, 3) := by decide +kernel
theorem dX11_again_13 : decode cX11_again 13 = .ok (.iload_n 1, 1) := by decide +kernel
theorem dX11_again_14 : decode cX11_again 14 = .ok (.baload, 1) := by decide +kernel
theorem dX11_again_15 : decode cX11_again 15 = .ok (.ifCond .ne 5, 3) := by decide +kernel
theorem dX11_again_18 : decode cX11_again 18 = .ok (.iconst 0, 1) := by decide +kernel
theorem dX11_again_19 : decode cX11_again 19 = .ok (.ireturn, 1) := by decide +kernel
theorem dX11_again_20 : decode cX11_again 20 = .ok (.aload_n 0, 1) := by decide +kernel
theorem dX11_again_21 : decode cX11_again 21 = .ok (.getfield 10, 3) := by decide +kernel
theorem dX11_again_24 : decode cX11_again 24 = .ok (.aload_n 0, 1) := by decide +kernel
theorem dX11_again_25 : decode cX11_again 25 = .ok (.getfield 16, 3) := by decide +kernel
theorem dX11_again_28 : decode cX11_again 28 = .ok (.iload_n 1, 1) := by decide +kernel
theorem dX11_again_29 : decode cX11_again 29 = .ok (.aaload, 1) := by decide +kernel
theorem dX11_again_30 : decode cX11_again 30 = .ok (.invokevirtual 283, 3) := by decide +kernel
theorem dX11_again_33 : decode cX11_again 33 = .ok (.iconst 1, 1) := by decide +kernel
theorem dX11_again_34 : decode cX11_again 34 = .ok (.ireturn, 1) := by decide +kernel
theorem dX11_tellRule_0 : decode cX11_tellRule 0 = .ok (.lload_n 0, 1) := by decide +kernel
theorem dX11_tellRule_1 : decode cX11_tellRule 1 = .ok (.lconst 0, 1) := by decide +kernel
theorem dX11_tellRule_2 : decode cX11_tellRule 2 = .ok (.lcmp, 1) := by decide +kernel
theorem dX11_tellRule_3 : decode cX11_tellRule 3 = .ok (.ifCond .eq 15, 3) := by decide +kernel
theorem dX11_tellRule_6 : decode cX11_tellRule 6 = .ok (.iload_n 2, 1) := by decide +kernel
theorem dX11_tellRule_7 : decode cX11_tellRule 7 = .ok (.ifCond .lt 11, 3) := by decide +kernel
theorem dX11_tellRule_10 : decode cX11_tellRule 10 = .ok (.iload_n 2, 1) := by decide +kernel
theorem dX11_tellRule_11 : decode cX11_tellRule 11 = .ok (.lload_n 0, 1) := by decide +kernel
theorem dX11_tellRule_12 : decode cX11_tellRule 12 = .ok (.invokestatic 145, 3) := by decide +kernel
theorem dX11_tellRule_15 : decode cX11_tellRule 15 = .ok (.if_icmp .le 5, 3) := by decide +kernel
theorem dX11_tellRule_18 : decode cX11_tellRule 18 = .ok (.iconst (-1), 1) := by decide +kernel
theorem dX11_tellRule_19 : decode cX11_tellRule 19 = .ok (.ireturn, 1) := by decide +kernel
theorem dX11_tellRule_20 : decode cX11_tellRule 20 = .ok (.iload_n 2, 1) := by decide +kernel
theorem dX11_tellRule_21 : decode cX11_tellRule 21 = .ok (.ifCond .ne 10, 3) := by decide +kernel
theorem dX11_tellRule_24 : decode cX11_tellRule 24 = .ok (.lload_n 0, 1) := by decide +kernel
theorem dX11_tellRule_25 : decode cX11_tellRule 25 = .ok (.invokestatic 145, 3) := by decide +kernel
theorem dX11_tellRule_28 : decode cX11_tellRule 28 = .ok (.goto 10, 3) := by decide +kernel
theorem dX11_tellRule_31 : decode cX11_tellRule 31 = .ok (.lload_n 0, 1) := by decide +kernel
theorem dX11_tellRule_32 : decode cX11_tellRule 32 = .ok (.iload_n 2, 1) := by decide +kernel
theorem dX11_tellRule_33 : decode cX11_tellRule 33 = .ok (.iconst 1, 1) := by decide +kernel
theorem dX11_tellRule_34 : decode cX11_tellRule 34 = .ok (.isub, 1) := by decide +kernel
theorem dX11_tellRule_35 : decode cX11_tellRule 35 = .ok (.invokestatic 148, 3) := by decide +kernel
theorem dX11_tellRule_38 : decode cX11_tellRule 38 = .ok (.ireturn, 1) := by decide +kernel
theorem dX11_canTrace_0 : decode cX11_canTrace 0 = .ok (.aload_n 0, 1) := by decide +kernel
theorem dX11_canTrace_1 : decode cX11_canTrace 1 = .ok (.getfield 10, 3) := by decide +kernel
theorem dX11_canTrace_4 : decode cX11_canTrace 4 = .ok (.iload_n 1, 1) := by decide +kernel
theorem dX11_canTrace_5 : decode cX11_canTrace 5 = .ok (.invokevirtual 89, 3) := by decide +kernel
theorem dX11_canTrace_8 : decode cX11_canTrace 8 = .ok (.astore 5, 2) := by decide +kernel
theorem dX11_canTrace_10 : decode cX11_canTrace 10 = .ok (.aload 5, 2) := by decide +kernel
theorem dX11_canTrace_12 : decode cX11_canTrace 12 = .ok (.ifnull 37, 3) := by decide +kernel
theorem dX11_canTrace_15 : decode cX11_canTrace 15 = .ok (.aload 5, 2) := by decide +kernel
theorem dX11_canTrace_17 : decode cX11_canTrace 17 = .ok (.iload_n 2, 1) := by decide +kernel
theorem dX11_canTrace_18 : decode cX11_canTrace 18 = .ok (.invokevirtual 129, 3) := by decide +kernel
theorem dX11_canTrace_21 : decode cX11_canTrace 21 = .ok (.ifCond .eq 28, 3) := by decide +kernel
theorem dX11_canTrace_24 : decode cX11_canTrace 24 = .ok (.aload_n 0, 1) := by decide +kernel
theorem dX11_canTrace_25 : decode cX11_canTrace 25 = .ok (.getfield 10, 3) := by decide +kernel
theorem dX11_canTrace_28 : decode cX11_canTrace 28 = .ok (.iload_n 3, 1) := by decide +kernel
theorem dX11_canTrace_29 : decode cX11_canTrace 29 = .ok (.invokevirtual 138, 3) := by decide +kernel
theorem dX11_canTrace_32 : decode cX11_canTrace 32 = .ok (.ifCond .eq 17, 3) := by decide +kernel
theorem dX11_canTrace_35 : decode cX11_canTrace 35 = .ok (.aload 5, 2) := by decide +kernel
theorem dX11_canTrace_37 : decode cX11_canTrace 37 = .ok (.iload 4, 2) := by decide +kernel
theorem dX11_canTrace_39 : decode cX11_canTrace 39 = .ok (.invokevirtual 117, 3) := by decide +kernel
theorem dX11_canTrace_42 : decode cX11_canTrace 42 = .ok (.ifCond .eq 7, 3) := by decide +kernel
theorem dX11_canTrace_45 : decode cX11_canTrace 45 = .ok (.iconst 1, 1) := by decide +kernel
theorem dX11_canTrace_46 : decode cX11_canTrace 46 = .ok (.goto 4, 3) := by decide +kernel
theorem dX11_canTrace_49 : decode cX11_canTrace 49 = .ok (.iconst 0, 1) := by decide +kernel
theorem dX11_canTrace_50 : decode cX11_canTrace 50 = .ok (.ireturn, 1) := by decide +kernel
theorem dX11_canContest_0 : decode cX11_canContest 0 = .ok (.aload_n 0, 1) := by decide +kernel
theorem dX11_canContest_1 : decode cX11_canContest 1 = .ok (.ifnull 26, 3) := by decide +kernel
theorem dX11_canContest_4 : decode cX11_canContest 4 = .ok (.iload_n 1, 1) := by decide +kernel
theorem dX11_canContest_5 : decode cX11_canContest 5 = .ok (.ifCond .lt 22, 3) := by decide +kernel
theorem dX11_canContest_8 : decode cX11_canContest 8 = .ok (.iload_n 1, 1) := by decide +kernel
theorem dX11_canContest_9 : decode cX11_canContest 9 = .ok (.iconst 1, 1) := by decide +kernel
theorem dX11_canContest_10 : decode cX11_canContest 10 = .ok (.if_icmp .gt 17, 3) := by decide +kernel
theorem dX11_canContest_13 : decode cX11_canContest 13 = .ok (.iload_n 2, 1) := by decide +kernel
theorem dX11_canContest_14 : decode cX11_canContest 14 = .ok (.iconst 1, 1) := by decide +kernel
theorem dX11_canContest_15 : decode cX11_canContest 15 = .ok (.if_icmp .lt 12, 3) := by decide +kernel
theorem dX11_canContest_18 : decode cX11_canContest 18 = .ok (.iload_n 2, 1) := by decide +kernel
theorem dX11_canContest_19 : decode cX11_canContest 19 = .ok (.iconst 2, 1) := by decide +kernel
theorem dX11_canContest_20 : decode cX11_canContest 20 = .ok (.if_icmp .gt 7, 3) := by decide +kernel
theorem dX11_canContest_23 : decode cX11_canContest 23 = .ok (.iconst 1, 1) := by decide +kernel
theorem dX11_canContest_24 : decode cX11_canContest 24 = .ok (.goto 4, 3) := by decide +kernel
theorem dX11_canContest_27 : decode cX11_canContest 27 = .ok (.iconst 0, 1) := by decide +kernel
theorem dX11_canContest_28 : decode cX11_canContest 28 = .ok (.ireturn, 1) := by decide +kernel
theorem dX11_bit_0 : decode cX11_bit 0 = .ok (.lconst 1, 1) := by decide +kernel
theorem dX11_bit_1 : decode cX11_bit 1 = .ok (.iload_n 0, 1) := by decide +kernel
theorem dX11_bit_2 : decode cX11_bit 2 = .ok (.lshl, 1) := by decide +kernel
theorem dX11_bit_3 : decode cX11_bit 3 = .ok (.lreturn, 1) := by decide +kernel
theorem dX11_has_0 : decode cX11_has 0 = .ok (.lload_n 0, 1) := by decide +kernel
theorem dX11_has_1 : decode cX11_has 1 = .ok (.iload_n 2, 1) := by decide +kernel
theorem dX11_has_2 : decode cX11_has 2 = .ok (.lushr, 1) := by decide +kernel
theorem dX11_has_3 : decode cX11_has 3 = .ok (.lconst 1, 1) := by decide +kernel
theorem dX11_has_4 : decode cX11_has 4 = .ok (.land, 1) := by decide +kernel
theorem dX11_has_5 : decode cX11_has 5 = .ok (.lconst 0, 1) := by decide +kernel
theorem dX11_has_6 : decode cX11_has 6 = .ok (.lcmp, 1) := by decide +kernel
theorem dX11_has_7 : decode cX11_has 7 = .ok (.ifCond .eq 7, 3) := by decide +kernel
theorem dX11_has_10 : decode cX11_has 10 = .ok (.iconst 1, 1) := by decide +kernel
theorem dX11_has_11 : decode cX11_has 11 = .ok (.goto 4, 3) := by decide +kernel
theorem dX11_has_14 : decode cX11_has 14 = .ok (.iconst 0, 1) := by decide +kernel
theorem dX11_has_15 : decode cX11_has 15 = .ok (.ireturn, 1) := by decide +kernel
theorem dX11_lengthOf_0 : decode cX11_lengthOf 0 = .ok (.lload_n 0, 1) := by decide +kernel
theorem dX11_lengthOf_1 : decode cX11_lengthOf 1 = .ok (.ldc2_w 287, 3) := by decide +kernel
theorem dX11_lengthOf_4 : decode cX11_lengthOf 4 = .ok (.land, 1) := by decide +kernel
theorem dX11_lengthOf_5 : decode cX11_lengthOf 5 = .ok (.l2i, 1) := by decide +kernel
theorem dX11_lengthOf_6 : decode cX11_lengthOf 6 = .ok (.ireturn, 1) := by decide +kernel
theorem dX11_signOf_0 : decode cX11_signOf 0 = .ok (.lload_n 0, 1) := by decide +kernel
theorem dX11_signOf_1 : decode cX11_signOf 1 = .ok (.iconst 4, 1) := by decide +kernel
theorem dX11_signOf_2 : decode cX11_signOf 2 = .ok (.iload_n 2, 1) := by decide +kernel
theorem dX11_signOf_3 : decode cX11_signOf 3 = .ok (.imul, 1) := by decide +kernel
theorem dX11_signOf_4 : decode cX11_signOf 4 = .ok (.iconst 4, 1) := by decide +kernel
theorem dX11_signOf_5 : decode cX11_signOf 5 = .ok (.iadd, 1) := by decide +kernel
theorem dX11_signOf_6 : decode cX11_signOf 6 = .ok (.lushr, 1) := by decide +kernel
theorem dX11_signOf_7 : decode cX11_signOf 7 = .ok (.l2i, 1) := by decide +kernel
theorem dX11_signOf_8 : decode cX11_signOf 8 = .ok (.bipush 15, 2) := by decide +kernel
theorem dX11_signOf_10 : decode cX11_signOf 10 = .ok (.iand, 1) := by decide +kernel
theorem dX11_signOf_11 : decode cX11_signOf 11 = .ok (.ireturn, 1) := by decide +kernel
theorem dX11_withSign_0 : decode cX11_withSign 0 = .ok (.lload_n 0, 1) := by decide +kernel
theorem dX11_withSign_1 : decode cX11_withSign 1 = .ok (.iload_n 2, 1) := by decide +kernel
theorem dX11_withSign_2 : decode cX11_withSign 2 = .ok (.i2l, 1) := by decide +kernel
theorem dX11_withSign_3 : decode cX11_withSign 3 = .ok (.iconst 4, 1) := by decide +kernel
theorem dX11_withSign_4 : decode cX11_withSign 4 = .ok (.lload_n 0, 1) := by decide +kernel
theorem dX11_withSign_5 : decode cX11_withSign 5 = .ok (.invokestatic 145, 3) := by decide +kernel
theorem dX11_withSign_8 : decode cX11_withSign 8 = .ok (.imul, 1) := by decide +kernel
theorem dX11_withSign_9 : decode cX11_withSign 9 = .ok (.iconst 4, 1) := by decide +kernel
theorem dX11_withSign_10 : decode cX11_withSign 10 = .ok (.iadd, 1) := by decide +kernel
theorem dX11_withSign_11 : decode cX11_withSign 11 = .ok (.lshl, 1) := by decide +kernel
theorem dX11_withSign_12 : decode cX11_withSign 12 = .ok (.lor, 1) := by decide +kernel
theorem dX11_withSign_13 : decode cX11_withSign 13 = .ok (.lconst 1, 1) := by decide +kernel
theorem dX11_withSign_14 : decode cX11_withSign 14 = .ok (.ladd, 1) := by decide +kernel
theorem dX11_withSign_15 : decode cX11_withSign 15 = .ok (.lreturn, 1) := by decide +kernel
theorem dX11_changedSign_0 : decode cX11_changedSign 0 = .ok (.iconst 4, 1) := by decide +kernel
theorem dX11_changedSign_1 : decode cX11_changedSign 1 = .ok (.iload_n 2, 1) := by decide +kernel
theorem dX11_changedSign_2 : decode cX11_changedSign 2 = .ok (.imul, 1) := by decide +kernel
theorem dX11_changedSign_3 : decode cX11_changedSign 3 = .ok (.iconst 4, 1) := by decide +kernel
theorem dX11_changedSign_4 : decode cX11_changedSign 4 = .ok (.iadd, 1) := by decide +kernel
theorem dX11_changedSign_5 : decode cX11_changedSign 5 = .ok (.istore 4, 2) := by decide +kernel
theorem dX11_changedSign_7 : decode cX11_changedSign 7 = .ok (.lload_n 0, 1) := by decide +kernel
theorem dX11_changedSign_8 : decode cX11_changedSign 8 = .ok (.ldc2_w 287, 3) := by decide +kernel
theorem dX11_changedSign_11 : decode cX11_changedSign 11 = .ok (.iload 4, 2) := by decide +kernel
theorem dX11_changedSign_13 : decode cX11_changedSign 13 = .ok (.lshl, 1) := by decide +kernel
theorem dX11_changedSign_14 : decode cX11_changedSign 14 = .ok (.ldc2_w 152, 3) := by decide +kernel
theorem dX11_changedSign_17 : decode cX11_changedSign 17 = .ok (.lxor, 1) := by decide +kernel
theorem dX11_changedSign_18 : decode cX11_changedSign 18 = .ok (.land, 1) := by decide +kernel
theorem dX11_changedSign_19 : decode cX11_changedSign 19 = .ok (.iload_n 3, 1) := by decide +kernel
theorem dX11_changedSign_20 : decode cX11_changedSign 20 = .ok (.i2l, 1) := by decide +kernel
theorem dX11_changedSign_21 : decode cX11_changedSign 21 = .ok (.iload 4, 2) := by decide +kernel
theorem dX11_changedSign_23 : decode cX11_changedSign 23 = .ok (.lshl, 1) := by decide +kernel
theorem dX11_changedSign_24 : decode cX11_changedSign 24 = .ok (.lor, 1) := by decide +kernel
theorem dX11_changedSign_25 : decode cX11_changedSign 25 = .ok (.lreturn, 1) := by decide +kernel
theorem dX12_init_0 : decode cX12_init 0 = .ok (.aload_n 0, 1) := by decide +kernel
theorem dX12_init_1 : decode cX12_init 1 = .ok (.invokespecial 1, 3) := by decide +kernel
theorem dX12_init_4 : decode cX12_init 4 = .ok (.aload_n 0, 1) := by decide +kernel
theorem dX12_init_5 : decode cX12_init 5 = .ok (.sipush 2400, 3) := by decide +kernel
theorem dX12_init_8 : decode cX12_init 8 = .ok (.newarray .byte, 2) := by decide +kernel
theorem dX12_init_10 : decode cX12_init 10 = .ok (.putfield 7, 3) := by decide +kernel
theorem dX12_init_13 : decode cX12_init 13 = .ok (.aload_n 0, 1) := by decide +kernel
theorem dX12_init_14 : decode cX12_init 14 = .ok (.iconst 4, 1) := by decide +kernel
theorem dX12_init_15 : decode cX12_init 15 = .ok (.newarray .int, 2) := by decide +kernel
theorem dX12_init_17 : decode cX12_init 17 = .ok (.putfield 13, 3) := by decide +kernel
theorem dX12_init_20 : decode cX12_init 20 = .ok (.aload_n 0, 1) := by decide +kernel
theorem dX12_init_21 : decode cX12_init 21 = .ok (.iconst 4, 1) := by decide +kernel
theorem dX12_init_22 : decode cX12_init 22 = .ok (.newarray .int, 2) := by decide +kernel
theorem dX12_init_24 : decode cX12_init 24 = .ok (.putfield 17, 3) := by decide +kernel
theorem dX12_init_27 : decode cX12_init 27 = .ok (.aload_n 0, 1) := by decide +kernel
theorem dX12_init_28 : decode cX12_init 28 = .ok (.iconst 4, 1) := by decide +kernel
theorem dX12_init_29 : decode cX12_init 29 = .ok (.newarray .int, 2) := by decide +kernel
theorem dX12_init_31 : decode cX12_init 31 = .ok (.putfield 20, 3) := by decide +kernel
theorem dX12_init_34 : decode cX12_init 34 = .ok (.aload_n 0, 1) := by decide +kernel
theorem dX12_init_35 : decode cX12_init 35 = .ok (.bipush 12, 2) := by decide +kernel
theorem dX12_init_37 : decode cX12_init 37 = .ok (.newarray .int, 2) := by decide +kernel
theorem dX12_init_39 : decode cX12_init 39 = .ok (.putfield 23, 3) := by decide +kernel
theorem dX12_init_42 : decode cX12_init 42 = .ok (.aload_n 0, 1) := by decide +kernel
theorem dX12_init_43 : decode cX12_init 43 = .ok (.sipush 408, 3) := by decide +kernel
theorem dX12_init_46 : decode cX12_init 46 = .ok (.newarray .int, 2) := by decide +kernel
theorem dX12_init_48 : decode cX12_init 48 = .ok (.putfield 26, 3) := by decide +kernel
theorem dX12_init_51 : decode cX12_init 51 = .ok (.aload_n 0, 1) := by decide +kernel
theorem dX12_init_52 : decode cX12_init 52 = .ok (.bipush 120, 2) := by decide +kernel
theorem dX12_init_54 : decode cX12_init 54 = .ok (.newarray .int, 2) := by decide +kernel
theorem dX12_init_56 : decode cX12_init 56 = .ok (.putfield 29, 3) := by decide +kernel
theorem dX12_init_59 : decode cX12_init 59 = .ok (.aload_n 0, 1) := by decide +kernel
theorem dX12_init_60 : decode cX12_init 60 = .ok (.sipush 2648, 3) := by decide +kernel
theorem dX12_init_63 : decode cX12_init 63 = .ok (.newarray .int, 2) := by decide +kernel
theorem dX12_init_65 : decode cX12_init 65 = .ok (.putfield 32, 3) := by decide +kernel
theorem dX12_init_68 : decode cX12_init 68 = .ok (.aload_n 0, 1) := by decide +kernel
theorem dX12_init_69 : decode cX12_init 69 = .ok (.sipush 331, 3) := by decide +kernel
theorem dX12_init_72 : decode cX12_init 72 = .ok (.newarray .int, 2) := by decide +kernel
theorem dX12_init_74 : decode cX12_init 74 = .ok (.putfield 35, 3) := by decide +kernel
theorem dX12_init_77 : decode cX12_init 77 = .ok (.aload_n 0, 1) := by decide +kernel
theorem dX12_init_78 : decode cX12_init 78 = .ok (.bipush 10, 2) := by decide +kernel
theorem dX12_init_80 : decode cX12_init 80 = .ok (.newarray .int, 2) := by decide +kernel
theorem dX12_init_82 : decode cX12_init 82 = .ok (.putfield 38, 3) := by decide +kernel
theorem dX12_init_85 : decode cX12_init 85 = .ok (.aload_n 0, 1) := by decide +kernel
theorem dX12_init_86 : decode cX12_init 86 = .ok (.bipush 7, 2) := by decide +kernel
theorem dX12_init_88 : decode cX12_init 88 = .ok (.newarray .int, 2) := by decide +kernel
theorem dX12_init_90 : decode cX12_init 90 = .ok (.putfield 41, 3) := by decide +kernel
theorem dX12_init_93 : decode cX12_init 93 = .ok (.aload_n 0, 1) := by decide +kernel
theorem dX12_init_94 : decode cX12_init 94 = .ok (.bipush 7, 2) := by decide +kernel
theorem dX12_init_96 : decode cX12_init 96 = .ok (.newarray .int, 2) := by decide +kernel
theorem dX12_init_98 : decode cX12_init 98 = .ok (.putfield 44, 3) := by decide +kernel
theorem dX12_init_101 : decode cX12_init 101 = .ok (.aload_n 0, 1) := by decide +kernel
theorem dX12_init_102 : decode cX12_init 102 = .ok (.iconst 2, 1) := by decide +kernel
theorem dX12_init_103 : decode cX12_init 103 = .ok (.newarray .int, 2) := by decide +kernel
theorem dX12_init_105 : decode cX12_init 105 = .ok (.putfield 47, 3) := by decide +kernel
theorem dX12_init_108 : decode cX12_init 108 = .ok (.aload_n 0, 1) := by decide +kernel
theorem dX12_init_109 : decode cX12_init 109 = .ok (.iconst 5, 1) := by decide +kernel
theorem dX12_init_110 : decode cX12_init 110 = .ok (.newarray .long, 2) := by decide +kernel
theorem dX12_init_112 : decode cX12_init 112 = .ok (.putfield 50, 3) := by decide +kernel
theorem dX12_init_115 : decode cX12_init 115 = .ok (.aload_n 0, 1) := by decide +kernel
theorem dX12_init_116 : decode cX12_init 116 = .ok (.iconst 5, 1) := by decide +kernel
theorem dX12_init_117 : decode cX12_init 117 = .ok (.newarray .long, 2) := by decide +kernel
theorem dX12_init_119 : decode cX12_init 119 = .ok (.putfield 54, 3) := by decide +kernel
theorem dX12_init_122 : decode cX12_init 122 = .ok (.aload_n 0, 1) := by decide +kernel
theorem dX12_init_123 : decode cX12_init 123 = .ok (.iconst 5, 1) := by decide +kernel
theorem dX12_init_124 : decode cX12_init 124 = .ok (.newarray .long, 2) := by decide +kernel
theorem dX12_init_126 : decode cX12_init 126 = .ok (.putfield 57, 3) := by decide +kernel
theorem dX12_init_129 : decode cX12_init 129 = .ok (.aload_n 0, 1) := by decide +kernel
theorem dX12_init_130 : decode cX12_init 130 = .ok (.bipush 10, 2) := by decide +kernel
theorem dX12_init_132 : decode cX12_init 132 = .ok (.newarray .int, 2) := by decide +kernel
theorem dX12_init_134 : decode cX12_init 134 = .ok (.putfield 60, 3) := by decide +kernel
theorem dX12_init_137 : decode cX12_init 137 = .ok (.aload_n 0, 1) := by decide +kernel
theorem dX12_init_138 : decode cX12_init 138 = .ok (.iconst 5, 1) := by decide +kernel
theorem dX12_init_139 : decode cX12_init 139 = .ok (.newarray .long, 2) := by decide +kernel
theorem dX12_init_141 : decode cX12_init 141 = .ok (.putfield 63, 3) := by decide +kernel
theorem dX12_init_144 : decode cX12_init 144 = .ok (.aload_n 0, 1) := by decide +kernel
theorem dX12_init_145 : decode cX12_init 145 = .ok (.iconst 5, 1) := by decide +kernel
theorem dX12_init_146 : decode cX12_init 146 = .ok (.newarray .long, 2) := by decide +kernel
theorem dX12_init_148 : decode cX12_init 148 = .ok (.putfield 66, 3) := by decide +kernel
theorem dX12_init_151 : decode cX12_init 151 = .ok (.aload_n 0, 1) := by decide +kernel
theorem dX12_init_152 : decode cX12_init 152 = .ok (.iconst 5, 1) := by decide +kernel
theorem dX12_init_153 : decode cX12_init 153 = .ok (.newarray .long, 2) := by decide +kernel
theorem dX12_init_155 : decode cX12_init 155 = .ok (.putfield 69, 3) := by decide +kernel
theorem dX12_init_158 : decode cX12_init 158 = .ok (.aload_n 0, 1) := by decide +kernel
theorem dX12_init_159 : decode cX12_init 159 = .ok (.iconst 5, 1) := by decide +kernel
theorem dX12_init_160 : decode cX12_init 160 = .ok (.newarray .long, 2) := by decide +kernel
theorem dX12_init_162 : decode cX12_init 162 = .ok (.putfield 72, 3) := by decide +kernel
theorem dX12_init_165 : decode cX12_init 165 = .ok (.aload_n 0, 1) := by decide +kernel
theorem dX12_init_166 : decode cX12_init 166 = .ok (.bipush 10, 2) := by decide +kernel
theorem dX12_init_168 : decode cX12_init 168 = .ok (.newarray .int, 2) := by decide +kernel
theorem dX12_init_170 : decode cX12_init 170 = .ok (.putfield 75, 3) := by decide +kernel
theorem dX12_init_173 : decode cX12_init 173 = .ok (.aload_n 0, 1) := by decide +kernel
theorem dX12_init_174 : decode cX12_init 174 = .ok (.iconst 5, 1) := by decide +kernel
theorem dX12_init_175 : decode cX12_init 175 = .ok (.newarray .long, 2) := by decide +kernel
theorem dX12_init_177 : decode cX12_init 177 = .ok (.putfield 78, 3) := by decide +kernel
theorem dX12_init_180 : decode cX12_init 180 = .ok (.aload_n 0, 1) := by decide +kernel
theorem dX12_init_181 : decode cX12_init 181 = .ok (.iconst 5, 1) := by decide +kernel
theorem dX12_init_182 : decode cX12_init 182 = .ok (.newarray .long, 2) := by decide +kernel
theorem dX12_init_184 : decode cX12_init 184 = .ok (.putfield 81, 3) := by decide +kernel
theorem dX12_init_187 : decode cX12_init 187 = .ok (.aload_n 0, 1) := by decide +kernel
theorem dX12_init_188 : decode cX12_init 188 = .ok (.iconst 5, 1) := by decide +kernel
theorem dX12_init_189 : decode cX12_init 189 = .ok (.newarray .long, 2) := by decide +kernel
theorem dX12_init_191 : decode cX12_init 191 = .ok (.putfield 84, 3) := by decide +kernel
theorem dX12_init_194 : decode cX12_init 194 = .ok (.aload_n 0, 1) := by decide +kernel
theorem dX12_init_195 : decode cX12_init 195 = .ok (.sipush 180, 3) := by decide +kernel
theorem dX12_init_198 : decode cX12_init 198 = .ok (.newarray .int, 2) := by decide +kernel
theorem dX12_init_200 : decode cX12_init 200 = .ok (.putfield 87, 3) := by decide +kernel
theorem dX12_init_203 : decode cX12_init 203 = .ok (.aload_n 0, 1) := by decide +kernel
theorem dX12_init_204 : decode cX12_init 204 = .ok (.sipush 180, 3) := by decide +kernel
theorem dX12_init_207 : decode cX12_init 207 = .ok (.newarray .int, 2) := by decide +kernel
theorem dX12_init_209 : decode cX12_init 209 = .ok (.putfield 90, 3) := by decide +kernel
theorem dX12_init_212 : decode cX12_init 212 = .ok (.aload_n 0, 1) := by decide +kernel
theorem dX12_init_213 : decode cX12_init 213 = .ok (.sipush 180, 3) := by decide +kernel
theorem dX12_init_216 : decode cX12_init 216 = .ok (.newarray .int, 2) := by decide +kernel
theorem dX12_init_218 : decode cX12_init 218 = .ok (.putfield 93, 3) := by decide +kernel
theorem dX12_init_221 : decode cX12_init 221 = .ok (.aload_n 0, 1) := by decide +kernel
theorem dX12_init_222 : decode cX12_init 222 = .ok (.sipush 180, 3) := by decide +kernel
theorem dX12_init_225 : decode cX12_init 225 = .ok (.newarray .int, 2) := by decide +kernel
theorem dX12_init_227 : decode cX12_init 227 = .ok (.putfield 96, 3) := by decide +kernel
theorem dX12_init_230 : decode cX12_init 230 = .ok (.aload_n 0, 1) := by decide +kernel
theorem dX12_init_231 : decode cX12_init 231 = .ok (.sipush 180, 3) := by decide +kernel
theorem dX12_init_234 : decode cX12_init 234 = .ok (.newarray .int, 2) := by decide +kernel
theorem dX12_init_236 : decode cX12_init 236 = .ok (.putfield 99, 3) := by decide +kernel
theorem dX12_init_239 : decode cX12_init 239 = .ok (.aload_n 0, 1) := by decide +kernel
theorem dX12_init_240 : decode cX12_init 240 = .ok (.sipush 180, 3) := by decide +kernel
theorem dX12_init_243 : decode cX12_init 243 = .ok (.newarray .int, 2) := by decide +kernel
theorem dX12_init_245 : decode cX12_init 245 = .ok (.putfield 102, 3) := by decide +kernel
theorem dX12_init_248 : decode cX12_init 248 = .ok (.aload_n 0, 1) := by decide +kernel
theorem dX12_init_249 : decode cX12_init 249 = .ok (.sipush 180, 3) := by decide +kernel
theorem dX12_init_252 : decode cX12_init 252 = .ok (.newarray .long, 2) := by decide +kernel
theorem dX12_init_254 : decode cX12_init 254 = .ok (.putfield 105, 3) := by decide +kernel
theorem dX12_init_257 : decode cX12_init 257 = .ok (.aload_n 0, 1) := by decide +kernel
theorem dX12_init_258 : decode cX12_init 258 = .ok (.sipush 180, 3) := by decide +kernel
theorem dX12_init_261 : decode cX12_init 261 = .ok (.newarray .long, 2) := by decide +kernel
theorem dX12_init_263 : decode cX12_init 263 = .ok (.putfield 108, 3) := by decide +kernel
theorem dX12_init_266 : decode cX12_init 266 = .ok (.aload_n 0, 1) := by decide +kernel
theorem dX12_init_267 : decode cX12_init 267 = .ok (.sipush 180, 3) := by decide +kernel
theorem dX12_init_270 : decode cX12_init 270 = .ok (.newarray .long, 2) := by decide +kernel
theorem dX12_init_272 : decode cX12_init 272 = .ok (.putfield 111, 3) := by decide +kernel
theorem dX12_init_275 : decode cX12_init 275 = .ok (.aload_n 0, 1) := by decide +kernel
theorem dX12_init_276 : decode cX12_init 276 = .ok (.bipush 36, 2) := by decide +kernel
theorem dX12_init_278 : decode cX12_init 278 = .ok (.newarray .int, 2) := by decide +kernel
theorem dX12_init_280 : decode cX12_init 280 = .ok (.putfield 114, 3) := by decide +kernel
theorem dX12_init_283 : decode cX12_init 283 = .ok (.aload_n 0, 1) := by decide +kernel
theorem dX12_init_284 : decode cX12_init 284 = .ok (.bipush 36, 2) := by decide +kernel
theorem dX12_init_286 : decode cX12_init 286 = .ok (.newarray .int, 2) := by decide +kernel
theorem dX12_init_288 : decode cX12_init 288 = .ok (.putfield 117, 3) := by decide +kernel
theorem dX12_init_291 : decode cX12_init 291 = .ok (.aload_n 0, 1) := by decide +kernel
theorem dX12_init_292 : decode cX12_init 292 = .ok (.bipush 36, 2) := by decide +kernel
theorem dX12_init_294 : decode cX12_init 294 = .ok (.newarray .long, 2) := by decide +kernel
theorem dX12_init_296 : decode cX12_init 296 = .ok (.putfield 120, 3) := by decide +kernel
theorem dX12_init_299 : decode cX12_init 299 = .ok (.aload_n 0, 1) := by decide +kernel
theorem dX12_init_300 : decode cX12_init 300 = .ok (.bipush 6, 2) := by decide +kernel
theorem dX12_init_302 : decode cX12_init 302 = .ok (.newarray .boolean, 2) := by decide +kernel
theorem dX12_init_304 : decode cX12_init 304 = .ok (.putfield 123, 3) := by decide +kernel
theorem dX12_init_307 : decode cX12_init 307 = .ok (.aload_n 0, 1) := by decide +kernel
theorem dX12_init_308 : decode cX12_init 308 = .ok (.bipush 36, 2) := by decide +kernel
theorem dX12_init_310 : decode cX12_init 310 = .ok (.newarray .long, 2) := by decide +kernel
theorem dX12_init_312 : decode cX12_init 312 = .ok (.putfield 127, 3) := by decide +kernel
theorem dX12_init_315 : decode cX12_init 315 = .ok (.aload_n 0, 1) := by decide +kernel
theorem dX12_init_316 : decode cX12_init 316 = .ok (.sipush 16384, 3) := by decide +kernel
theorem dX12_init_319 : decode cX12_init 319 = .ok (.newarray .long, 2) := by decide +kernel
theorem dX12_init_321 : decode cX12_init 321 = .ok (.putfield 130, 3) := by decide +kernel
theorem dX12_init_324 : decode cX12_init 324 = .ok (.aload_n 0, 1) := by decide +kernel
theorem dX12_init_325 : decode cX12_init 325 = .ok (.sipush 16384, 3) := by decide +kernel
theorem dX12_init_328 : decode cX12_init 328 = .ok (.newarray .boolean, 2) := by decide +kernel
theorem dX12_init_330 : decode cX12_init 330 = .ok (.putfield 133, 3) := by decide +kernel
theorem dX12_init_333 : decode cX12_init 333 = .ok (.aload_n 0, 1) := by decide +kernel
theorem dX12_init_334 : decode cX12_init 334 = .ok (.sipush 330, 3) := by decide +kernel
theorem dX12_init_337 : decode cX12_init 337 = .ok (.newarray .long, 2) := by decide +kernel
theorem dX12_init_339 : decode cX12_init 339 = .ok (.putfield 136, 3) := by decide +kernel
theorem dX12_init_342 : decode cX12_init 342 = .ok (.aload_n 0, 1) := by decide +kernel
theorem dX12_init_343 : decode cX12_init 343 = .ok (.iconst 3, 1) := by decide +kernel
theorem dX12_init_344 : decode cX12_init 344 = .ok (.newarray .int, 2) := by decide +kernel
theorem dX12_init_346 : decode cX12_init 346 = .ok (.putfield 139, 3) := by decide +kernel
theorem dX12_init_349 : decode cX12_init 349 = .ok (.aload_n 0, 1) := by decide +kernel
theorem dX12_init_350 : decode cX12_init 350 = .ok (.bipush 18, 2) := by decide +kernel
theorem dX12_init_352 : decode cX12_init 352 = .ok (.newarray .int, 2) := by decide +kernel
theorem dX12_init_354 : decode cX12_init 354 = .ok (.putfield 142, 3) := by decide +kernel
theorem dX12_init_357 : decode cX12_init 357 = .ok (.aload_n 0, 1) := by decide +kernel
theorem dX12_init_358 : decode cX12_init 358 = .ok (.bipush 6, 2) := by decide +kernel
theorem dX12_init_360 : decode cX12_init 360 = .ok (.newarray .int, 2) := by decide +kernel
theorem dX12_init_362 : decode cX12_init 362 = .ok (.putfield 145, 3) := by decide +kernel
theorem dX12_init_365 : decode cX12_init 365 = .ok (.aload_n 0, 1) := by decide +kernel
theorem dX12_init_366 : decode cX12_init 366 = .ok (.iconst 3, 1) := by decide +kernel
theorem dX12_init_367 : decode cX12_init 367 = .ok (.newarray .int, 2) := by decide +kernel
theorem dX12_init_369 : decode cX12_init 369 = .ok (.putfield 148, 3) := by decide +kernel
theorem dX12_init_372 : decode cX12_init 372 = .ok (.aload_n 0, 1) := by decide +kernel
theorem dX12_init_373 : decode cX12_init 373 = .ok (.iconst 3, 1) := by decide +kernel
theorem dX12_init_374 : decode cX12_init 374 = .ok (.newarray .int, 2) := by decide +kernel
theorem dX12_init_376 : decode cX12_init 376 = .ok (.putfield 151, 3) := by decide +kernel
theorem dX12_init_379 : decode cX12_init 379 = .ok (.aload_n 0, 1) := by decide +kernel
theorem dX12_init_380 : decode cX12_init 380 = .ok (.iconst 3, 1) := by decide +kernel
theorem dX12_init_381 : decode cX12_init 381 = .ok (.newarray .boolean, 2) := by decide +kernel
theorem dX12_init_383 : decode cX12_init 383 = .ok (.putfield 154, 3) := by decide +kernel
theorem dX12_init_386 : decode cX12_init 386 = .ok (.aload_n 0, 1) := by decide +kernel
theorem dX12_init_387 : decode cX12_init 387 = .ok (.getfield 20, 3) := by decide +kernel
theorem dX12_init_390 : decode cX12_init 390 = .ok (.iconst 0, 1) := by decide +kernel
theorem dX12_init_391 : decode cX12_init 391 = .ok (.iconst (-1), 1) := by decide +kernel
theorem dX12_init_392 : decode cX12_init 392 = .ok (.iastore, 1) := by decide +kernel
theorem dX12_init_393 : decode cX12_init 393 = .ok (.return_, 1) := by decide +kernel
theorem dX12_in_0 : decode cX12_in 0 = .ok (.iload_n 0, 1) := by decide +kernel
theorem dX12_in_1 : decode cX12_in 1 = .ok (.iload_n 1, 1) := by decide +kernel
theorem dX12_in_2 : decode cX12_in 2 = .ok (.if_icmp .lt 12, 3) := by decide +kernel
theorem dX12_in_5 : decode cX12_in 5 = .ok (.iload_n 0, 1) := by decide +kernel
theorem dX12_in_6 : decode cX12_in 6 = .ok (.iload_n 2, 1) := by decide +kernel
theorem dX12_in_7 : decode cX12_in 7 = .ok (.if_icmp .gt 7, 3) := by decide +kernel
theorem dX12_in_10 : decode cX12_in 10 = .ok (.iconst 1, 1) := by decide +kernel
theorem dX12_in_11 : decode cX12_in 11 = .ok (.goto 4, 3) := by decide +kernel
theorem dX12_in_14 : decode cX12_in 14 = .ok (.iconst 0, 1) := by decide +kernel
theorem dX12_in_15 : decode cX12_in 15 = .ok (.ireturn, 1) := by decide +kernel
theorem dX12_has_0 : decode cX12_has 0 = .ok (.lload_n 0, 1) := by decide +kernel
theorem dX12_has_1 : decode cX12_has 1 = .ok (.iload_n 2, 1) := by decide +kernel
theorem dX12_has_2 : decode cX12_has 2 = .ok (.lshr, 1) := by decide +kernel
theorem dX12_has_3 : decode cX12_has 3 = .ok (.lconst 1, 1) := by decide +kernel
theorem dX12_has_4 : decode cX12_has 4 = .ok (.land, 1) := by decide +kernel
theorem dX12_has_5 : decode cX12_has 5 = .ok (.lconst 1, 1) := by decide +kernel
theorem dX12_has_6 : decode cX12_has 6 = .ok (.lcmp, 1) := by decide +kernel
theorem dX12_has_7 : decode cX12_has 7 = .ok (.ifCond .ne 7, 3) := by decide +kernel
theorem dX12_has_10 : decode cX12_has 10 = .ok (.iconst 1, 1) := by decide +kernel
theorem dX12_has_11 : decode cX12_has 11 = .ok (.goto 4, 3) := by decide +kernel
theorem dX12_has_14 : decode cX12_has 14 = .ok (.iconst 0, 1) := by decide +kernel
theorem dX12_has_15 : decode cX12_has 15 = .ok (.ireturn, 1) := by decide +kernel
theorem dX12_copyRow_0 : decode cX12_copyRow 0 = .ok (.iconst 0, 1) := by decide +kernel
theorem dX12_copyRow_1 : decode cX12_copyRow 1 = .ok (.istore 4, 2) := by decide +kernel
theorem dX12_copyRow_3 : decode cX12_copyRow 3 = .ok (.iload 4, 2) := by decide +kernel
theorem dX12_copyRow_5 : decode cX12_copyRow 5 = .ok (.iload_n 1, 1) := by decide +kernel
theorem dX12_copyRow_6 : decode cX12_copyRow 6 = .ok (.if_icmp .ge 25, 3) := by decide +kernel
theorem dX12_copyRow_9 : decode cX12_copyRow 9 = .ok (.aload_n 0, 1) := by decide +kernel
theorem dX12_copyRow_10 : decode cX12_copyRow 10 = .ok (.iload_n 1, 1) := by decide +kernel
theorem dX12_copyRow_11 : decode cX12_copyRow 11 = .ok (.iload_n 3, 1) := by decide +kernel
theorem dX12_copyRow_12 : decode cX12_copyRow 12 = .ok (.imul, 1) := by decide +kernel
theorem dX12_copyRow_13 : decode cX12_copyRow 13 = .ok (.iload 4, 2) := by decide +kernel
theorem dX12_copyRow_15 : decode cX12_copyRow 15 = .ok (.iadd, 1) := by decide +kernel
theorem dX12_copyRow_16 : decode cX12_copyRow 16 = .ok (.aload_n 0, 1) := by decide +kernel
theorem dX12_copyRow_17 : decode cX12_copyRow 17 = .ok (.iload_n 1, 1) := by decide +kernel
theorem dX12_copyRow_18 : decode cX12_copyRow 18 = .ok (.iload_n 2, 1) := by decide +kernel
theorem dX12_copyRow_19 : decode cX12_copyRow 19 = .ok (.imul, 1) := by decide +kernel
theorem dX12_copyRow_20 : decode cX12_copyRow 20 = .ok (.iload 4, 2) := by decide +kernel
theorem dX12_copyRow_22 : decode cX12_copyRow 22 = .ok (.iadd, 1) := by decide +kernel
theorem dX12_copyRow_23 : decode cX12_copyRow 23 = .ok (.iaload, 1) := by decide +kernel
theorem dX12_copyRow_24 : decode cX12_copyRow 24 = .ok (.iastore, 1) := by decide +kernel
theorem dX12_copyRow_25 : decode cX12_copyRow 25 = .ok (.iinc 4 1, 3) := by decide +kernel
theorem dX12_copyRow_28 : decode cX12_copyRow 28 = .ok (.goto (-25), 3) := by decide +kernel
theorem dX12_copyRow_31 : decode cX12_copyRow 31 = .ok (.return_, 1) := by decide +kernel
theorem dX12_copyAll_0 : decode cX12_copyAll 0 = .ok (.iconst 0, 1) := by decide +kernel
theorem dX12_copyAll_1 : decode cX12_copyAll 1 = .ok (.istore_n 3, 1) := by decide +kernel
theorem dX12_copyAll_2 : decode cX12_copyAll 2 = .ok (.iload_n 3, 1) := by decide +kernel
theorem dX12_copyAll_3 : decode cX12_copyAll 3 = .ok (.sipush 600, 3) := by decide +kernel
theorem dX12_copyAll_6 : decode cX12_copyAll 6 = .ok (.if_icmp .ge 33, 3) := by decide +kernel
theorem dX12_copyAll_9 : decode cX12_copyAll 9 = .ok (.aload_n 0, 1) := by decide +kernel
theorem dX12_copyAll_10 : decode cX12_copyAll 10 = .ok (.getfield 7, 3) := by decide +kernel
theorem dX12_copyAll_13 : decode cX12_copyAll 13 = .ok (.sipush 600, 3) := by decide +kernel
theorem dX12_copyAll_16 : decode cX12_copyAll 16 = .ok (.iload_n 2, 1) := by decide +kernel
theorem dX12_copyAll_17 : decode cX12_copyAll 17 = .ok (.imul, 1) := by decide +kernel
theorem dX12_copyAll_18 : decode cX12_copyAll 18 = .ok (.iload_n 3, 1) := by decide +kernel
theorem dX12_copyAll_19 : decode cX12_copyAll 19 = .ok (.iadd, 1) := by decide +kernel
theorem dX12_copyAll_20 : decode cX12_copyAll 20 = .ok (.aload_n 0, 1) := by decide +kernel
theorem dX12_copyAll_21 : decode cX12_copyAll 21 = .ok (.getfield 7, 3) := by decide +kernel
theorem dX12_copyAll_24 : decode cX12_copyAll 24 = .ok (.sipush 600, 3) := by decide +kernel
theorem dX12_copyAll_27 : decode cX12_copyAll 27 = .ok (.iload_n 1, 1) := by decide +kernel
theorem dX12_copyAll_28 : decode cX12_copyAll 28 = .ok (.imul, 1) := by decide +kernel
theorem dX12_copyAll_29 : decode cX12_copyAll 29 = .ok (.iload_n 3, 1) := by decide +kernel
theorem dX12_copyAll_30 : decode cX12_copyAll 30 = .ok (.iadd, 1) := by decide +kernel
theorem dX12_copyAll_31 : decode cX12_copyAll 31 = .ok (.baload, 1) := by decide +kernel
theorem dX12_copyAll_32 : decode cX12_copyAll 32 = .ok (.bastore, 1) := by decide +kernel
theorem dX12_copyAll_33 : decode cX12_copyAll 33 = .ok (.iinc 3 1, 3) := by decide +kernel
theorem dX12_copyAll_36 : decode cX12_copyAll 36 = .ok (.goto (-34), 3) := by decide +kernel
theorem dX12_copyAll_39 : decode cX12_copyAll 39 = .ok (.aload_n 0, 1) := by decide +kernel
theorem dX12_copyAll_40 : decode cX12_copyAll 40 = .ok (.getfield 13, 3) := by decide +kernel
theorem dX12_copyAll_43 : decode cX12_copyAll 43 = .ok (.iconst 1, 1) := by decide +kernel
theorem dX12_copyAll_44 : decode cX12_copyAll 44 = .ok (.iload_n 1, 1) := by decide +kernel
theorem dX12_copyAll_45 : decode cX12_copyAll 45 = .ok (.iload_n 2, 1) := by decide +kernel
theorem dX12_copyAll_46 : decode cX12_copyAll 46 = .ok (.invokestatic 161, 3) := by decide +kernel
theorem dX12_copyAll_49 : decode cX12_copyAll 49 = .ok (.aload_n 0, 1) := by decide +kernel
theorem dX12_copyAll_50 : decode cX12_copyAll 50 = .ok (.getfield 17, 3) := by decide +kernel
theorem dX12_copyAll_53 : decode cX12_copyAll 53 = .ok (.iconst 1, 1) := by decide +kernel
theorem dX12_copyAll_54 : decode cX12_copyAll 54 = .ok (.iload_n 1, 1) := by decide +kernel
theorem dX12_copyAll_55 : decode cX12_copyAll 55 = .ok (.iload_n 2, 1) := by decide +kernel
theorem dX12_copyAll_56 : decode cX12_copyAll 56 = .ok (.invokestatic 161, 3) := by decide +kernel
theorem dX12_copyAll_59 : decode cX12_copyAll 59 = .ok (.aload_n 0, 1) := by decide +kernel
theorem dX12_copyAll_60 : decode cX12_copyAll 60 = .ok (.getfield 20, 3) := by decide +kernel
theorem dX12_copyAll_63 : decode cX12_copyAll 63 = .ok (.iconst 1, 1) := by decide +kernel
theorem dX12_copyAll_64 : decode cX12_copyAll 64 = .ok (.iload_n 1, 1) := by decide +kernel
theorem dX12_copyAll_65 : decode cX12_copyAll 65 = .ok (.iload_n 2, 1) := by decide +kernel
theorem dX12_copyAll_66 : decode cX12_copyAll 66 = .ok (.invokestatic 161, 3) := by decide +kernel
theorem dX12_copyAll_69 : decode cX12_copyAll 69 = .ok (.aload_n 0, 1) := by decide +kernel
theorem dX12_copyAll_70 : decode cX12_copyAll 70 = .ok (.getfield 23, 3) := by decide +kernel
theorem dX12_copyAll_73 : decode cX12_copyAll 73 = .ok (.iconst 3, 1) := by decide +kernel
theorem dX12_copyAll_74 : decode cX12_copyAll 74 = .ok (.iload_n 1, 1) := by decide +kernel
theorem dX12_copyAll_75 : decode cX12_copyAll 75 = .ok (.iload_n 2, 1) := by decide +kernel
theorem dX12_copyAll_76 : decode cX12_copyAll 76 = .ok (.invokestatic 161, 3) := by decide +kernel
theorem dX12_copyAll_79 : decode cX12_copyAll 79 = .ok (.aload_n 0, 1) := by decide +kernel
theorem dX12_copyAll_80 : decode cX12_copyAll 80 = .ok (.getfield 26, 3) := by decide +kernel
theorem dX12_copyAll_83 : decode cX12_copyAll 83 = .ok (.bipush 102, 2) := by decide +kernel
theorem dX12_copyAll_85 : decode cX12_copyAll 85 = .ok (.iload_n 1, 1) := by decide +kernel
theorem dX12_copyAll_86 : decode cX12_copyAll 86 = .ok (.iload_n 2, 1) := by decide +kernel
theorem dX12_copyAll_87 : decode cX12_copyAll 87 = .ok (.invokestatic 161, 3) := by decide +kernel
theorem dX12_copyAll_90 : decode cX12_copyAll 90 = .ok (.aload_n 0, 1) := by decide +kernel
theorem dX12_copyAll_91 : decode cX12_copyAll 91 = .ok (.getfield 29, 3) := by decide +kernel
theorem dX12_copyAll_94 : decode cX12_copyAll 94 = .ok (.bipush 30, 2) := by decide +kernel
theorem dX12_copyAll_96 : decode cX12_copyAll 96 = .ok (.iload_n 1, 1) := by decide +kernel
theorem dX12_copyAll_97 : decode cX12_copyAll 97 = .ok (.iload_n 2, 1) := by decide +kernel
theorem dX12_copyAll_98 : decode cX12_copyAll 98 = .ok (.invokestatic 161, 3) := by decide +kernel
theorem dX12_copyAll_101 : decode cX12_copyAll 101 = .ok (.aload_n 0, 1) := by decide +kernel
theorem dX12_copyAll_102 : decode cX12_copyAll 102 = .ok (.getfield 32, 3) := by decide +kernel
theorem dX12_copyAll_105 : decode cX12_copyAll 105 = .ok (.sipush 662, 3) := by decide +kernel
theorem dX12_copyAll_108 : decode cX12_copyAll 108 = .ok (.iload_n 1, 1) := by decide +kernel
theorem dX12_copyAll_109 : decode cX12_copyAll 109 = .ok (.iload_n 2, 1) := by decide +kernel
theorem dX12_copyAll_110 : decode cX12_copyAll 110 = .ok (.invokestatic 161, 3) := by decide +kernel
theorem dX12_copyAll_113 : decode cX12_copyAll 113 = .ok (.return_, 1) := by decide +kernel
theorem dX12_is_0 : decode cX12_is 0 = .ok (.iload_n 2, 1) := by decide +kernel
theorem dX12_is_1 : decode cX12_is 1 = .ok (.iconst 0, 1) := by decide +kernel
theorem dX12_is_2 : decode cX12_is 2 = .ok (.aload_n 0, 1) := by decide +kernel
theorem dX12_is_3 : decode cX12_is 3 = .ok (.getfield 23, 3) := by decide +kernel
theorem dX12_is_6 : decode cX12_is 6 = .ok (.iload_n 1, 1) := by decide +kernel
theorem dX12_is_7 : decode cX12_is 7 = .ok (.iaload, 1) := by decide +kernel
theorem dX12_is_8 : decode cX12_is 8 = .ok (.iconst 1, 1) := by decide +kernel
theorem dX12_is_9 : decode cX12_is 9 = .ok (.isub, 1) := by decide +kernel
theorem dX12_is_10 : decode cX12_is 10 = .ok (.invokestatic 165, 3) := by decide +kernel
theorem dX12_is_13 : decode cX12_is 13 = .ok (.ireturn, 1) := by decide +kernel
theorem dX12_feed_0 : decode cX12_feed 0 = .ok (.aload_n 0, 1) := by decide +kernel
theorem dX12_feed_1 : decode cX12_feed 1 = .ok (.iconst 0, 1) := by decide +kernel
theorem dX12_feed_2 : decode cX12_feed 2 = .ok (.putfield 157, 3) := by decide +kernel
theorem dX12_feed_5 : decode cX12_feed 5 = .ok (.aload_n 0, 1) := by decide +kernel
theorem dX12_feed_6 : decode cX12_feed 6 = .ok (.getfield 13, 3) := by decide +kernel
theorem dX12_feed_9 : decode cX12_feed 9 = .ok (.iconst 0, 1) := by decide +kernel
theorem dX12_feed_10 : decode cX12_feed 10 = .ok (.iaload, 1) := by decide +kernel
theorem dX12_feed_11 : decode cX12_feed 11 = .ok (.bipush 20, 2) := by decide +kernel
theorem dX12_feed_13 : decode cX12_feed 13 = .ok (.iadd, 1) := by decide +kernel
theorem dX12_feed_14 : decode cX12_feed 14 = .ok (.sipush 600, 3) := by decide +kernel
theorem dX12_feed_17 : decode cX12_feed 17 = .ok (.if_icmp .le 5, 3) := by decide +kernel
theorem dX12_feed_20 : decode cX12_feed 20 = .ok (.iconst (-1), 1) := by decide +kernel
theorem dX12_feed_21 : decode cX12_feed 21 = .ok (.ireturn, 1) := by decide +kernel
theorem dX12_feed_22 : decode cX12_feed 22 = .ok (.aload_n 0, 1) := by decide +kernel
theorem dX12_feed_23 : decode cX12_feed 23 = .ok (.iload_n 1, 1) := by decide +kernel
theorem dX12_feed_24 : decode cX12_feed 24 = .ok (.invokevirtual 169, 3) := by decide +kernel
theorem dX12_feed_27 : decode cX12_feed 27 = .ok (.aload_n 0, 1) := by decide +kernel
theorem dX12_feed_28 : decode cX12_feed 28 = .ok (.iload_n 2, 1) := by decide +kernel
theorem dX12_feed_29 : decode cX12_feed 29 = .ok (.invokevirtual 169, 3) := by decide +kernel
theorem dX12_feed_32 : decode cX12_feed 32 = .ok (.aload_n 0, 1) := by decide +kernel
theorem dX12_feed_33 : decode cX12_feed 33 = .ok (.iload_n 3, 1) := by decide +kernel
theorem dX12_feed_34 : decode cX12_feed 34 = .ok (.invokevirtual 169, 3) := by decide +kernel
theorem dX12_feed_37 : decode cX12_feed 37 = .ok (.aload_n 0, 1) := by decide +kernel
theorem dX12_feed_38 : decode cX12_feed 38 = .ok (.iload 4, 2) := by decide +kernel
theorem dX12_feed_40 : decode cX12_feed 40 = .ok (.invokevirtual 169, 3) := by decide +kernel
theorem dX12_feed_43 : decode cX12_feed 43 = .ok (.aload_n 0, 1) := by decide +kernel
theorem dX12_feed_44 : decode cX12_feed 44 = .ok (.iload 5, 2) := by decide +kernel
theorem dX12_feed_46 : decode cX12_feed 46 = .ok (.invokevirtual 169, 3) := by decide +kernel
theorem dX12_feed_49 : decode cX12_feed 49 = .ok (.aload_n 0, 1) := by decide +kernel
theorem dX12_feed_50 : decode cX12_feed 50 = .ok (.getfield 13, 3) := by decide +kernel
theorem dX12_feed_53 : decode cX12_feed 53 = .ok (.iconst 0, 1) := by decide +kernel
theorem dX12_feed_54 : decode cX12_feed 54 = .ok (.iaload, 1) := by decide +kernel
theorem dX12_feed_55 : decode cX12_feed 55 = .ok (.ireturn, 1) := by decide +kernel
theorem dX12_four_0 : decode cX12_four 0 = .ok (.bipush 24, 2) := by decide +kernel
theorem dX12_four_2 : decode cX12_four 2 = .ok (.istore_n 2, 1) := by decide +kernel
theorem dX12_four_3 : decode cX12_four 3 = .ok (.iload_n 2, 1) := by decide +kernel
theorem dX12_four_4 : decode cX12_four 4 = .ok (.ifCond .lt 34, 3) := by decide +kernel
theorem dX12_four_7 : decode cX12_four 7 = .ok (.aload_n 0, 1) := by decide +kernel
theorem dX12_four_8 : decode cX12_four 8 = .ok (.getfield 7, 3) := by decide +kernel
theorem dX12_four_11 : decode cX12_four 11 = .ok (.aload_n 0, 1) := by decide +kernel
theorem dX12_four_12 : decode cX12_four 12 = .ok (.getfield 13, 3) := by decide +kernel
theorem dX12_four_15 : decode cX12_four 15 = .ok (.iconst 0, 1) := by decide +kernel
theorem dX12_four_16 : decode cX12_four 16 = .ok (.iaload, 1) := by decide +kernel
theorem dX12_four_17 : decode cX12_four 17 = .ok (.iload_n 1, 1) := by decide +kernel
theorem dX12_four_18 : decode cX12_four 18 = .ok (.iload_n 2, 1) := by decide +kernel
theorem dX12_four_19 : decode cX12_four 19 = .ok (.ishr, 1) := by decide +kernel
theorem dX12_four_20 : decode cX12_four 20 = .ok (.i2b, 1) := by decide +kernel
theorem dX12_four_21 : decode cX12_four 21 = .ok (.bastore, 1) := by decide +kernel
theorem dX12_four_22 : decode cX12_four 22 = .ok (.aload_n 0, 1) := by decide +kernel
theorem dX12_four_23 : decode cX12_four 23 = .ok (.getfield 13, 3) := by decide +kernel
theorem dX12_four_26 : decode cX12_four 26 = .ok (.iconst 0, 1) := by decide +kernel
theorem dX12_four_27 : decode cX12_four 27 = .ok (.dup2, 1) := by decide +kernel
theorem dX12_four_28 : decode cX12_four 28 = .ok (.iaload, 1) := by decide +kernel
theorem dX12_four_29 : decode cX12_four 29 = .ok (.iconst 1, 1) := by decide +kernel
theorem dX12_four_30 : decode cX12_four 30 = .ok (.iadd, 1) := by decide +kernel
theorem dX12_four_31 : decode cX12_four 31 = .ok (.iastore, 1) := by decide +kernel
theorem dX12_four_32 : decode cX12_four 32 = .ok (.iinc 2 (-8), 3) := by decide +kernel
theorem dX12_four_35 : decode cX12_four 35 = .ok (.goto (-32), 3) := by decide +kernel
theorem dX12_four_38 : decode cX12_four 38 = .ok (.return_, 1) := by decide +kernel
theorem dX12_end_0 : decode cX12_end 0 = .ok (.aload_n 0, 1) := by decide +kernel
theorem dX12_end_1 : decode cX12_end 1 = .ok (.iconst 0, 1) := by decide +kernel
theorem dX12_end_2 : decode cX12_end 2 = .ok (.putfield 157, 3) := by decide +kernel
theorem dX12_end_5 : decode cX12_end 5 = .ok (.iload_n 1, 1) := by decide +kernel
theorem dX12_end_6 : decode cX12_end 6 = .ok (.iconst 0, 1) := by decide +kernel
theorem dX12_end_7 : decode cX12_end 7 = .ok (.aload_n 0, 1) := by decide +kernel
theorem dX12_end_8 : decode cX12_end 8 = .ok (.getfield 13, 3) := by decide +kernel
theorem dX12_end_11 : decode cX12_end 11 = .ok (.iconst 0, 1) := by decide +kernel
theorem dX12_end_12 : decode cX12_end 12 = .ok (.iaload, 1) := by decide +kernel
theorem dX12_end_13 : decode cX12_end 13 = .ok (.invokestatic 165, 3) := by decide +kernel
theorem dX12_end_16 : decode cX12_end 16 = .ok (.ifCond .ne 5, 3) := by decide +kernel
theorem dX12_end_19 : decode cX12_end 19 = .ok (.iconst (-1), 1) := by decide +kernel
theorem dX12_end_20 : decode cX12_end 20 = .ok (.ireturn, 1) := by decide +kernel
theorem dX12_end_21 : decode cX12_end 21 = .ok (.aload_n 0, 1) := by decide +kernel
theorem dX12_end_22 : decode cX12_end 22 = .ok (.getfield 13, 3) := by decide +kernel
theorem dX12_end_25 : decode cX12_end 25 = .ok (.iconst 0, 1) := by decide +kernel
theorem dX12_end_26 : decode cX12_end 26 = .ok (.iload_n 1, 1) := by decide +kernel
theorem dX12_end_27 : decode cX12_end 27 = .ok (.iastore, 1) := by decide +kernel
theorem dX12_end_28 : decode cX12_end 28 = .ok (.iload_n 1, 1) := by decide +kernel
theorem dX12_end_29 : decode cX12_end 29 = .ok (.ireturn, 1) := by decide +kernel
theorem dX12_see_0 : decode cX12_see 0 = .ok (.aload_n 0, 1) := by decide +kernel
theorem dX12_see_1 : decode cX12_see 1 = .ok (.getfield 173, 3) := by decide +kernel
theorem dX12_see_4 : decode cX12_see 4 = .ok (.aload_n 0, 1) := by decide +kernel
theorem dX12_see_5 : decode cX12_see 5 = .ok (.getfield 176, 3) := by decide +kernel
theorem dX12_see_8 : decode cX12_see 8 = .ok (.if_icmp .ge 19, 3) := by decide +kernel
theorem dX12_see_11 : decode cX12_see 11 = .ok (.aload_n 0, 1) := by decide +kernel
theorem dX12_see_12 : decode cX12_see 12 = .ok (.getfield 7, 3) := by decide +kernel
theorem dX12_see_15 : decode cX12_see 15 = .ok (.aload_n 0, 1) := by decide +kernel
theorem dX12_see_16 : decode cX12_see 16 = .ok (.getfield 173, 3) := by decide +kernel
theorem dX12_see_19 : decode cX12_see 19 = .ok (.baload, 1) := by decide +kernel
theorem dX12_see_20 : decode cX12_see 20 = .ok (.sipush 255, 3) := by decide +kernel
theorem dX12_see_23 : decode cX12_see 23 = .ok (.iand, 1) := by decide +kernel
theorem dX12_see_24 : decode cX12_see 24 = .ok (.goto 4, 3) := by decide +kernel
theorem dX12_see_27 : decode cX12_see 27 = .ok (.iconst (-1), 1) := by decide +kernel
theorem dX12_see_28 : decode cX12_see 28 = .ok (.ireturn, 1) := by decide +kernel
theorem dX12_token_0 : decode cX12_token 0 = .ok (.aload_n 0, 1) := by decide +kernel
theorem dX12_token_1 : decode cX12_token 1 = .ok (.invokevirtual 179, 3) := by decide +kernel
theorem dX12_token_4 : decode cX12_token 4 = .ok (.bipush 10, 2) := by decide +kernel
theorem dX12_token_6 : decode cX12_token 6 = .ok (.if_icmp .eq 12, 3) := by decide +kernel
theorem dX12_token_9 : decode cX12_token 9 = .ok (.aload_n 0, 1) := by decide +kernel
theorem dX12_token_10 : decode cX12_token 10 = .ok (.invokevirtual 179, 3) := by decide +kernel
theorem dX12_token_13 : decode cX12_token 13 = .ok (.bipush 32, 2) := by decide +kernel
theorem dX12_token_15 : decode cX12_token 15 = .ok (.if_icmp .ne 16, 3) := by decide +kernel
theorem dX12_token_18 : decode cX12_token 18 = .ok (.aload_n 0, 1) := by decide +kernel
theorem dX12_token_19 : decode cX12_token 19 = .ok (.dup, 1) := by decide +kernel
theorem dX12_token_20 : decode cX12_token 20 = .ok (.getfield 173, 3) := by decide +kernel
theorem dX12_token_23 : decode cX12_token 23 = .ok (.iconst 1, 1) := by decide +kernel
theorem dX12_token_24 : decode cX12_token 24 = .ok (.iadd, 1) := by decide +kernel
theorem dX12_token_25 : decode cX12_token 25 = .ok (.putfield 173, 3) := by decide +kernel
theorem dX12_token_28 : decode cX12_token 28 = .ok (.goto (-28), 3) := by decide +kernel
theorem dX12_token_31 : decode cX12_token 31 = .ok (.aload_n 0, 1) := by decide +kernel
theorem dX12_token_32 : decode cX12_token 32 = .ok (.aload_n 0, 1) := by decide +kernel
theorem dX12_token_33 : decode cX12_token 33 = .ok (.getfield 173, 3) := by decide +kernel
theorem dX12_token_36 : decode cX12_token 36 = .ok (.putfield 183, 3) := by decide +kernel
theorem dX12_token_39 : decode cX12_token 39 = .ok (.aload_n 0, 1) := by decide +kernel
theorem dX12_token_40 : decode cX12_token 40 = .ok (.invokevirtual 179, 3) := by decide +kernel
theorem dX12_token_43 : decode cX12_token 43 = .ok (.istore_n 1, 1) := by decide +kernel
theorem dX12_token_44 : decode cX12_token 44 = .ok (.aload_n 0, 1) := by decide +kernel
theorem dX12_token_45 : decode cX12_token 45 = .ok (.lconst 0, 1) := by decide +kernel
theorem dX12_token_46 : decode cX12_token 46 = .ok (.putfield 186, 3) := by decide +kernel
theorem dX12_token_49 : decode cX12_token 49 = .ok (.iconst 0, 1) := by decide +kernel
theorem dX12_token_50 : decode cX12_token 50 = .ok (.istore_n 2, 1) := by decide +kernel
theorem dX12_token_51 : decode cX12_token 51 = .ok (.iload_n 1, 1) := by decide +kernel
theorem dX12_token_52 : decode cX12_token 52 = .ok (.ifCond .ge 11, 3) := by decide +kernel
theorem dX12_token_55 : decode cX12_token 55 = .ok (.aload_n 0, 1) := by decide +kernel
theorem dX12_token_56 : decode cX12_token 56 = .ok (.iconst 0, 1) := by decide +kernel
theorem dX12_token_57 : decode cX12_token 57 = .ok (.putfield 190, 3) := by decide +kernel
theorem dX12_token_60 : decode cX12_token 60 = .ok (.goto 206, 3) := by decide +kernel
theorem dX12_token_63 : decode cX12_token 63 = .ok (.iload_n 1, 1) := by decide +kernel
theorem dX12_token_64 : decode cX12_token 64 = .ok (.bipush 97, 2) := by decide +kernel
theorem dX12_token_66 : decode cX12_token 66 = .ok (.bipush 122, 2) := by decide +kernel
theorem dX12_token_68 : decode cX12_token 68 = .ok (.invokestatic 165, 3) := by decide +kernel
theorem dX12_token_71 : decode cX12_token 71 = .ok (.ifCond .eq 76, 3) := by decide +kernel
theorem dX12_token_74 : decode cX12_token 74 = .ok (.aload_n 0, 1) := by decide +kernel
theorem dX12_token_75 : decode cX12_token 75 = .ok (.invokevirtual 179, 3) := by decide +kernel
theorem dX12_token_78 : decode cX12_token 78 = .ok (.bipush 97, 2) := by decide +kernel
theorem dX12_token_80 : decode cX12_token 80 = .ok (.bipush 122, 2) := by decide +kernel
theorem dX12_token_82 : decode cX12_token 82 = .ok (.invokestatic 165, 3) := by decide +kernel
theorem dX12_token_85 : decode cX12_token 85 = .ok (.ifCond .eq 36, 3) := by decide +kernel
theorem dX12_token_88 : decode cX12_token 88 = .ok (.aload_n 0, 1) := by decide +kernel
theorem dX12_token_89 : decode cX12_token 89 = .ok (.aload_n 0, 1) := by decide +kernel
theorem dX12_token_90 : decode cX12_token 90 = .ok (.getfield 186, 3) := by decide +kernel
theorem dX12_token_93 : decode cX12_token 93 = .ok (.bipush 8, 2) := by decide +kernel
theorem dX12_token_95 : decode cX12_token 95 = .ok (.lshl, 1) := by decide +kernel
theorem dX12_token_96 : decode cX12_token 96 = .ok (.aload_n 0, 1) := by decide +kernel
theorem dX12_token_97 : decode cX12_token 97 = .ok (.invokevirtual 179, 3) := by decide +kernel
theorem dX12_token_100 : decode cX12_token 100 = .ok (.i2l, 1) := by decide +kernel
theorem dX12_token_101 : decode cX12_token 101 = .ok (.lor, 1) := by decide +kernel
theorem dX12_token_102 : decode cX12_token 102 = .ok (.putfield 186, 3) := by decide +kernel
theorem dX12_token_105 : decode cX12_token 105 = .ok (.aload_n 0, 1) := by decide +kernel
theorem dX12_token_106 : decode cX12_token 106 = .ok (.dup, 1) := by decide +kernel
theorem dX12_token_107 : decode cX12_token 107 = .ok (.getfield 173, 3) := by decide +kernel
theorem dX12_token_110 : decode cX12_token 110 = .ok (.iconst 1, 1) := by decide +kernel
theorem dX12_token_111 : decode cX12_token 111 = .ok (.iadd, 1) := by decide +kernel
theorem dX12_token_112 : decode cX12_token 112 = .ok (.putfield 173, 3) := by decide +kernel
theorem dX12_token_115 : decode cX12_token 115 = .ok (.iinc 2 1, 3) := by decide +kernel
theorem dX12_token_118 : decode cX12_token 118 = .ok (.goto (-44), 3) := by decide +kernel
theorem dX12_token_121 : decode cX12_token 121 = .ok (.aload_n 0, 1) := by decide +kernel
theorem dX12_token_122 : decode cX12_token 122 = .ok (.iload_n 2, 1) := by decide +kernel
theorem dX12_token_123 : decode cX12_token 123 = .ok (.bipush 8, 2) := by decide +kernel
theorem dX12_token_125 : decode cX12_token 125 = .ok (.if_icmp .le 7, 3) := by decide +kernel
theorem dX12_token_128 : decode cX12_token 128 = .ok (.lconst 0, 1) := by decide +kernel
theorem dX12_token_129 : decode cX12_token 129 = .ok (.goto 7, 3) := by decide +kernel
theorem dX12_token_132 : decode cX12_token 132 = .ok (.aload_n 0, 1) := by decide +kernel
theorem dX12_token_133 : decode cX12_token 133 = .ok (.getfield 186, 3) := by decide +kernel
theorem dX12_token_136 : decode cX12_token 136 = .ok (.putfield 186, 3) := by decide +kernel
theorem dX12_token_139 : decode cX12_token 139 = .ok (.aload_n 0, 1) := by decide +kernel
theorem dX12_token_140 : decode cX12_token 140 = .ok (.iconst 2, 1) := by decide +kernel
theorem dX12_token_141 : decode cX12_token 141 = .ok (.putfield 190, 3) := by decide +kernel
theorem dX12_token_144 : decode cX12_token 144 = .ok (.goto 122, 3) := by decide +kernel
theorem dX12_token_147 : decode cX12_token 147 = .ok (.iload_n 1, 1) := by decide +kernel
theorem dX12_token_148 : decode cX12_token 148 = .ok (.bipush 48, 2) := by decide +kernel
theorem dX12_token_150 : decode cX12_token 150 = .ok (.bipush 57, 2) := by decide +kernel
theorem dX12_token_152 : decode cX12_token 152 = .ok (.invokestatic 165, 3) := by decide +kernel
theorem dX12_token_155 : decode cX12_token 155 = .ok (.ifCond .eq 86, 3) := by decide +kernel
theorem dX12_token_158 : decode cX12_token 158 = .ok (.aload_n 0, 1) := by decide +kernel
theorem dX12_token_159 : decode cX12_token 159 = .ok (.iconst 0, 1) := by decide +kernel
theorem dX12_token_160 : decode cX12_token 160 = .ok (.putfield 193, 3) := by decide +kernel
theorem dX12_token_163 : decode cX12_token 163 = .ok (.aload_n 0, 1) := by decide +kernel
theorem dX12_token_164 : decode cX12_token 164 = .ok (.invokevirtual 179, 3) := by decide +kernel
theorem dX12_token_167 : decode cX12_token 167 = .ok (.bipush 48, 2) := by decide +kernel
theorem dX12_token_169 : decode cX12_token 169 = .ok (.bipush 57, 2) := by decide +kernel
theorem dX12_token_171 : decode cX12_token 171 = .ok (.invokestatic 165, 3) := by decide +kernel
theorem dX12_token_174 : decode cX12_token 174 = .ok (.ifCond .eq 50, 3) := by decide +kernel
theorem dX12_token_177 : decode cX12_token 177 = .ok (.aload_n 0, 1) := by decide +kernel
theorem dX12_token_178 : decode cX12_token 178 = .ok (.iload_n 2, 1) := by decide +kernel
theorem dX12_token_179 : decode cX12_token 179 = .ok (.iconst 2, 1) := by decide +kernel
theorem dX12_token_180 : decode cX12_token 180 = .ok (.if_icmp .ge 21, 3) := by decide +kernel
theorem dX12_token_183 : decode cX12_token 183 = .ok (.bipush 10, 2) := by decide +kernel
theorem dX12_token_185 : decode cX12_token 185 = .ok (.aload_n 0, 1) := by decide +kernel
