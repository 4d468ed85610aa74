theorem dX7_init_0 : decode cX7_init 0 = .ok (.aload_n 0, 1) := by decide +kernel
theorem dX7_init_1 : decode cX7_init 1 = .ok (.invokespecial 3, 3) := by decide +kernel
theorem dX7_init_4 : decode cX7_init 4 = .ok (.aload_n 0, 1) := by decide +kernel
theorem dX7_init_5 : decode cX7_init 5 = .ok (.new 9, 3) := by decide +kernel
theorem dX7_init_8 : decode cX7_init 8 = .ok (.dup, 1) := by decide +kernel
theorem dX7_init_9 : decode cX7_init 9 = .ok (.invokespecial 11, 3) := by decide +kernel
theorem dX7_init_12 : decode cX7_init 12 = .ok (.putfield 12, 3) := by decide +kernel
theorem dX7_init_15 : decode cX7_init 15 = .ok (.aload_n 0, 1) := by decide +kernel
theorem dX7_init_16 : decode cX7_init 16 = .ok (.new 18, 3) := by decide +kernel
theorem dX7_init_19 : decode cX7_init 19 = .ok (.dup, 1) := by decide +kernel
theorem dX7_init_20 : decode cX7_init 20 = .ok (.invokespecial 20, 3) := by decide +kernel
theorem dX7_init_23 : decode cX7_init 23 = .ok (.putfield 21, 3) := by decide +kernel
theorem dX7_init_26 : decode cX7_init 26 = .ok (.aload_n 0, 1) := by decide +kernel
theorem dX7_init_27 : decode cX7_init 27 = .ok (.new 25, 3) := by decide +kernel
theorem dX7_init_30 : decode cX7_init 30 = .ok (.dup, 1) := by decide +kernel
theorem dX7_init_31 : decode cX7_init 31 = .ok (.invokespecial 27, 3) := by decide +kernel
theorem dX7_init_34 : decode cX7_init 34 = .ok (.putfield 28, 3) := by decide +kernel
theorem dX7_init_37 : decode cX7_init 37 = .ok (.aload_n 0, 1) := by decide +kernel
theorem dX7_init_38 : decode cX7_init 38 = .ok (.new 32, 3) := by decide +kernel
theorem dX7_init_41 : decode cX7_init 41 = .ok (.dup, 1) := by decide +kernel
theorem dX7_init_42 : decode cX7_init 42 = .ok (.invokespecial 34, 3) := by decide +kernel
theorem dX7_init_45 : decode cX7_init 45 = .ok (.putfield 35, 3) := by decide +kernel
theorem dX7_init_48 : decode cX7_init 48 = .ok (.aload_n 0, 1) := by decide +kernel
theorem dX7_init_49 : decode cX7_init 49 = .ok (.new 39, 3) := by decide +kernel
theorem dX7_init_52 : decode cX7_init 52 = .ok (.dup, 1) := by decide +kernel
theorem dX7_init_53 : decode cX7_init 53 = .ok (.invokespecial 41, 3) := by decide +kernel
theorem dX7_init_56 : decode cX7_init 56 = .ok (.putfield 42, 3) := by decide +kernel
theorem dX7_init_59 : decode cX7_init 59 = .ok (.aload_n 0, 1) := by decide +kernel
theorem dX7_init_60 : decode cX7_init 60 = .ok (.new 46, 3) := by decide +kernel
theorem dX7_init_63 : decode cX7_init 63 = .ok (.dup, 1) := by decide +kernel
theorem dX7_init_64 : decode cX7_init 64 = .ok (.invokespecial 48, 3) := by decide +kernel
theorem dX7_init_67 : decode cX7_init 67 = .ok (.putfield 49, 3) := by decide +kernel
theorem dX7_init_70 : decode cX7_init 70 = .ok (.aload_n 0, 1) := by decide +kernel
theorem dX7_init_71 : decode cX7_init 71 = .ok (.bipush 6, 2) := by decide +kernel
theorem dX7_init_73 : decode cX7_init 73 = .ok (.anewarray 53, 3) := by decide +kernel
theorem dX7_init_76 : decode cX7_init 76 = .ok (.putfield 55, 3) := by decide +kernel
theorem dX7_init_79 : decode cX7_init 79 = .ok (.aload_n 0, 1) := by decide +kernel
theorem dX7_init_80 : decode cX7_init 80 = .ok (.bipush 120, 2) := by decide +kernel
theorem dX7_init_82 : decode cX7_init 82 = .ok (.newarray .int, 2) := by decide +kernel
theorem dX7_init_84 : decode cX7_init 84 = .ok (.putfield 59, 3) := by decide +kernel
theorem dX7_init_87 : decode cX7_init 87 = .ok (.iconst 0, 1) := by decide +kernel
theorem dX7_init_88 : decode cX7_init 88 = .ok (.istore_n 1, 1) := by decide +kernel
theorem dX7_init_89 : decode cX7_init 89 = .ok (.iload_n 1, 1) := by decide +kernel
theorem dX7_init_90 : decode cX7_init 90 = .ok (.bipush 6, 2) := by decide +kernel
theorem dX7_init_92 : decode cX7_init 92 = .ok (.if_icmp .ge 22, 3) := by decide +kernel
theorem dX7_init_95 : decode cX7_init 95 = .ok (.aload_n 0, 1) := by decide +kernel
theorem dX7_init_96 : decode cX7_init 96 = .ok (.getfield 55, 3) := by decide +kernel
theorem dX7_init_99 : decode cX7_init 99 = .ok (.iload_n 1, 1) := by decide +kernel
theorem dX7_init_100 : decode cX7_init 100 = .ok (.new 53, 3) := by decide +kernel
theorem dX7_init_103 : decode cX7_init 103 = .ok (.dup, 1) := by decide +kernel
theorem dX7_init_104 : decode cX7_init 104 = .ok (.invokespecial 63, 3) := by decide +kernel
theorem dX7_init_107 : decode cX7_init 107 = .ok (.aastore, 1) := by decide +kernel
theorem dX7_init_108 : decode cX7_init 108 = .ok (.iinc 1 1, 3) := by decide +kernel
theorem dX7_init_111 : decode cX7_init 111 = .ok (.goto (-22), 3) := by decide +kernel
theorem dX7_init_114 : decode cX7_init 114 = .ok (.return_, 1) := by decide +kernel
theorem dX7_card_0 : decode cX7_card 0 = .ok (.iload_n 1, 1) := by decide +kernel
theorem dX7_card_1 : decode cX7_card 1 = .ok (.ifCond .lt 24, 3) := by decide +kernel
theorem dX7_card_4 : decode cX7_card 4 = .ok (.iload_n 1, 1) := by decide +kernel
theorem dX7_card_5 : decode cX7_card 5 = .ok (.bipush 100, 2) := by decide +kernel
theorem dX7_card_7 : decode cX7_card 7 = .ok (.idiv, 1) := by decide +kernel
theorem dX7_card_8 : decode cX7_card 8 = .ok (.iload_n 1, 1) := by decide +kernel
theorem dX7_card_9 : decode cX7_card 9 = .ok (.bipush 10, 2) := by decide +kernel
theorem dX7_card_11 : decode cX7_card 11 = .ok (.idiv, 1) := by decide +kernel
theorem dX7_card_12 : decode cX7_card 12 = .ok (.bipush 10, 2) := by decide +kernel
theorem dX7_card_14 : decode cX7_card 14 = .ok (.irem, 1) := by decide +kernel
theorem dX7_card_15 : decode cX7_card 15 = .ok (.iload_n 1, 1) := by decide +kernel
theorem dX7_card_16 : decode cX7_card 16 = .ok (.bipush 10, 2) := by decide +kernel
theorem dX7_card_18 : decode cX7_card 18 = .ok (.irem, 1) := by decide +kernel
theorem dX7_card_19 : decode cX7_card 19 = .ok (.invokestatic 64, 3) := by decide +kernel
theorem dX7_card_22 : decode cX7_card 22 = .ok (.ifCond .ne 5, 3) := by decide +kernel
theorem dX7_card_25 : decode cX7_card 25 = .ok (.iconst (-1), 1) := by decide +kernel
theorem dX7_card_26 : decode cX7_card 26 = .ok (.ireturn, 1) := by decide +kernel
theorem dX7_card_27 : decode cX7_card 27 = .ok (.aload_n 0, 1) := by decide +kernel
theorem dX7_card_28 : decode cX7_card 28 = .ok (.getfield 12, 3) := by decide +kernel
theorem dX7_card_31 : decode cX7_card 31 = .ok (.iload_n 1, 1) := by decide +kernel
theorem dX7_card_32 : decode cX7_card 32 = .ok (.bipush 100, 2) := by decide +kernel
theorem dX7_card_34 : decode cX7_card 34 = .ok (.idiv, 1) := by decide +kernel
theorem dX7_card_35 : decode cX7_card 35 = .ok (.iload_n 1, 1) := by decide +kernel
theorem dX7_card_36 : decode cX7_card 36 = .ok (.bipush 10, 2) := by decide +kernel
theorem dX7_card_38 : decode cX7_card 38 = .ok (.idiv, 1) := by decide +kernel
theorem dX7_card_39 : decode cX7_card 39 = .ok (.bipush 10, 2) := by decide +kernel
theorem dX7_card_41 : decode cX7_card 41 = .ok (.irem, 1) := by decide +kernel
theorem dX7_card_42 : decode cX7_card 42 = .ok (.iload_n 1, 1) := by decide +kernel
theorem dX7_card_43 : decode cX7_card 43 = .ok (.bipush 10, 2) := by decide +kernel
theorem dX7_card_45 : decode cX7_card 45 = .ok (.irem, 1) := by decide +kernel
theorem dX7_card_46 : decode cX7_card 46 = .ok (.invokevirtual 68, 3) := by decide +kernel
theorem dX7_card_49 : decode cX7_card 49 = .ok (.ireturn, 1) := by decide +kernel
theorem dX7_mend_0 : decode cX7_mend 0 = .ok (.aload_n 0, 1) := by decide +kernel
theorem dX7_mend_1 : decode cX7_mend 1 = .ok (.getfield 12, 3) := by decide +kernel
theorem dX7_mend_4 : decode cX7_mend 4 = .ok (.iload_n 1, 1) := by decide +kernel
theorem dX7_mend_5 : decode cX7_mend 5 = .ok (.iload_n 2, 1) := by decide +kernel
theorem dX7_mend_6 : decode cX7_mend 6 = .ok (.invokevirtual 98, 3) := by decide +kernel
theorem dX7_mend_9 : decode cX7_mend 9 = .ok (.ifCond .eq 16, 3) := by decide +kernel
theorem dX7_mend_12 : decode cX7_mend 12 = .ok (.iload_n 3, 1) := by decide +kernel
theorem dX7_mend_13 : decode cX7_mend 13 = .ok (.ifCond .lt 12, 3) := by decide +kernel
theorem dX7_mend_16 : decode cX7_mend 16 = .ok (.iload_n 3, 1) := by decide +kernel
theorem dX7_mend_17 : decode cX7_mend 17 = .ok (.getstatic 101, 3) := by decide +kernel
theorem dX7_mend_20 : decode cX7_mend 20 = .ok (.iload_n 2, 1) := by decide +kernel
theorem dX7_mend_21 : decode cX7_mend 21 = .ok (.iaload, 1) := by decide +kernel
theorem dX7_mend_22 : decode cX7_mend 22 = .ok (.if_icmp .le 5, 3) := by decide +kernel
theorem dX7_mend_25 : decode cX7_mend 25 = .ok (.iconst (-1), 1) := by decide +kernel
theorem dX7_mend_26 : decode cX7_mend 26 = .ok (.ireturn, 1) := by decide +kernel
theorem dX7_mend_27 : decode cX7_mend 27 = .ok (.aload_n 0, 1) := by decide +kernel
theorem dX7_mend_28 : decode cX7_mend 28 = .ok (.getfield 12, 3) := by decide +kernel
theorem dX7_mend_31 : decode cX7_mend 31 = .ok (.iload_n 1, 1) := by decide +kernel
theorem dX7_mend_32 : decode cX7_mend 32 = .ok (.iload_n 2, 1) := by decide +kernel
theorem dX7_mend_33 : decode cX7_mend 33 = .ok (.iload_n 3, 1) := by decide +kernel
theorem dX7_mend_34 : decode cX7_mend 34 = .ok (.invokevirtual 104, 3) := by decide +kernel
theorem dX7_mend_37 : decode cX7_mend 37 = .ok (.ireturn, 1) := by decide +kernel
theorem dX7_of_0 : decode cX7_of 0 = .ok (.aload_n 0, 1) := by decide +kernel
theorem dX7_of_1 : decode cX7_of 1 = .ok (.getfield 12, 3) := by decide +kernel
theorem dX7_of_4 : decode cX7_of 4 = .ok (.iload_n 1, 1) := by decide +kernel
theorem dX7_of_5 : decode cX7_of 5 = .ok (.iload_n 2, 1) := by decide +kernel
theorem dX7_of_6 : decode cX7_of 6 = .ok (.invokevirtual 98, 3) := by decide +kernel
theorem dX7_of_9 : decode cX7_of 9 = .ok (.ifCond .eq 15, 3) := by decide +kernel
theorem dX7_of_12 : decode cX7_of 12 = .ok (.aload_n 0, 1) := by decide +kernel
theorem dX7_of_13 : decode cX7_of 13 = .ok (.getfield 12, 3) := by decide +kernel
theorem dX7_of_16 : decode cX7_of 16 = .ok (.getfield 107, 3) := by decide +kernel
theorem dX7_of_19 : decode cX7_of 19 = .ok (.iload_n 2, 1) := by decide +kernel
theorem dX7_of_20 : decode cX7_of 20 = .ok (.aaload, 1) := by decide +kernel
theorem dX7_of_21 : decode cX7_of 21 = .ok (.iload_n 1, 1) := by decide +kernel
theorem dX7_of_22 : decode cX7_of 22 = .ok (.iaload, 1) := by decide +kernel
theorem dX7_of_23 : decode cX7_of 23 = .ok (.ireturn, 1) := by decide +kernel
theorem dX7_of_24 : decode cX7_of 24 = .ok (.iload_n 2, 1) := by decide +kernel
theorem dX7_of_25 : decode cX7_of 25 = .ok (.bipush 12, 2) := by decide +kernel
theorem dX7_of_27 : decode cX7_of 27 = .ok (.if_icmp .ne 31, 3) := by decide +kernel
theorem dX7_of_30 : decode cX7_of 30 = .ok (.iload_n 1, 1) := by decide +kernel
theorem dX7_of_31 : decode cX7_of 31 = .ok (.aload_n 0, 1) := by decide +kernel
theorem dX7_of_32 : decode cX7_of 32 = .ok (.getfield 12, 3) := by decide +kernel
theorem dX7_of_35 : decode cX7_of 35 = .ok (.getfield 91, 3) := by decide +kernel
theorem dX7_of_38 : decode cX7_of 38 = .ok (.invokestatic 72, 3) := by decide +kernel
theorem dX7_of_41 : decode cX7_of 41 = .ok (.ifCond .eq 15, 3) := by decide +kernel
theorem dX7_of_44 : decode cX7_of 44 = .ok (.aload_n 0, 1) := by decide +kernel
theorem dX7_of_45 : decode cX7_of 45 = .ok (.getfield 42, 3) := by decide +kernel
theorem dX7_of_48 : decode cX7_of 48 = .ok (.getfield 111, 3) := by decide +kernel
theorem dX7_of_51 : decode cX7_of 51 = .ok (.iload_n 1, 1) := by decide +kernel
theorem dX7_of_52 : decode cX7_of 52 = .ok (.iaload, 1) := by decide +kernel
theorem dX7_of_53 : decode cX7_of 53 = .ok (.goto 4, 3) := by decide +kernel
theorem dX7_of_56 : decode cX7_of 56 = .ok (.iconst (-1), 1) := by decide +kernel
theorem dX7_of_57 : decode cX7_of 57 = .ok (.ireturn, 1) := by decide +kernel
theorem dX7_of_58 : decode cX7_of 58 = .ok (.iload_n 2, 1) := by decide +kernel
theorem dX7_of_59 : decode cX7_of 59 = .ok (.bipush 13, 2) := by decide +kernel
theorem dX7_of_61 : decode cX7_of 61 = .ok (.if_icmp .ne 26, 3) := by decide +kernel
theorem dX7_of_64 : decode cX7_of 64 = .ok (.iload_n 1, 1) := by decide +kernel
theorem dX7_of_65 : decode cX7_of 65 = .ok (.bipush 6, 2) := by decide +kernel
theorem dX7_of_67 : decode cX7_of 67 = .ok (.invokestatic 72, 3) := by decide +kernel
theorem dX7_of_70 : decode cX7_of 70 = .ok (.ifCond .eq 15, 3) := by decide +kernel
theorem dX7_of_73 : decode cX7_of 73 = .ok (.aload_n 0, 1) := by decide +kernel
theorem dX7_of_74 : decode cX7_of 74 = .ok (.getfield 42, 3) := by decide +kernel
theorem dX7_of_77 : decode cX7_of 77 = .ok (.getfield 114, 3) := by decide +kernel
theorem dX7_of_80 : decode cX7_of 80 = .ok (.iload_n 1, 1) := by decide +kernel
theorem dX7_of_81 : decode cX7_of 81 = .ok (.iaload, 1) := by decide +kernel
theorem dX7_of_82 : decode cX7_of 82 = .ok (.goto 4, 3) := by decide +kernel
theorem dX7_of_85 : decode cX7_of 85 = .ok (.iconst (-1), 1) := by decide +kernel
theorem dX7_of_86 : decode cX7_of 86 = .ok (.ireturn, 1) := by decide +kernel
theorem dX7_of_87 : decode cX7_of 87 = .ok (.iload_n 2, 1) := by decide +kernel
theorem dX7_of_88 : decode cX7_of 88 = .ok (.bipush 14, 2) := by decide +kernel
theorem dX7_of_90 : decode cX7_of 90 = .ok (.if_icmp .ne 30, 3) := by decide +kernel
theorem dX7_of_93 : decode cX7_of 93 = .ok (.iload_n 1, 1) := by decide +kernel
theorem dX7_of_94 : decode cX7_of 94 = .ok (.ifCond .ne 26, 3) := by decide +kernel
theorem dX7_of_97 : decode cX7_of 97 = .ok (.aload_n 0, 1) := by decide +kernel
theorem dX7_of_98 : decode cX7_of 98 = .ok (.getfield 42, 3) := by decide +kernel
theorem dX7_of_101 : decode cX7_of 101 = .ok (.getfield 117, 3) := by decide +kernel
theorem dX7_of_104 : decode cX7_of 104 = .ok (.ifCond .ge 8, 3) := by decide +kernel
theorem dX7_of_107 : decode cX7_of 107 = .ok (.bipush (-2), 2) := by decide +kernel
theorem dX7_of_109 : decode cX7_of 109 = .ok (.goto 10, 3) := by decide +kernel
theorem dX7_of_112 : decode cX7_of 112 = .ok (.aload_n 0, 1) := by decide +kernel
theorem dX7_of_113 : decode cX7_of 113 = .ok (.getfield 42, 3) := by decide +kernel
theorem dX7_of_116 : decode cX7_of 116 = .ok (.getfield 117, 3) := by decide +kernel
theorem dX7_of_119 : decode cX7_of 119 = .ok (.ireturn, 1) := by decide +kernel
theorem dX7_of_120 : decode cX7_of 120 = .ok (.iload_n 2, 1) := by decide +kernel
theorem dX7_of_121 : decode cX7_of 121 = .ok (.bipush 15, 2) := by decide +kernel
theorem dX7_of_123 : decode cX7_of 123 = .ok (.if_icmp .ne 17, 3) := by decide +kernel
theorem dX7_of_126 : decode cX7_of 126 = .ok (.iload_n 1, 1) := by decide +kernel
theorem dX7_of_127 : decode cX7_of 127 = .ok (.ifCond .ne 13, 3) := by decide +kernel
theorem dX7_of_130 : decode cX7_of 130 = .ok (.aload_n 0, 1) := by decide +kernel
theorem dX7_of_131 : decode cX7_of 131 = .ok (.getfield 12, 3) := by decide +kernel
theorem dX7_of_134 : decode cX7_of 134 = .ok (.invokevirtual 120, 3) := by decide +kernel
theorem dX7_of_137 : decode cX7_of 137 = .ok (.goto 4, 3) := by decide +kernel
theorem dX7_of_140 : decode cX7_of 140 = .ok (.iconst (-1), 1) := by decide +kernel
theorem dX7_of_141 : decode cX7_of 141 = .ok (.ireturn, 1) := by decide +kernel
theorem dX7_feed_0 : decode cX7_feed 0 = .ok (.iload_n 1, 1) := by decide +kernel
theorem dX7_feed_1 : decode cX7_feed 1 = .ok (.sipush 256, 3) := by decide +kernel
theorem dX7_feed_4 : decode cX7_feed 4 = .ok (.invokestatic 72, 3) := by decide +kernel
theorem dX7_feed_7 : decode cX7_feed 7 = .ok (.ifCond .ne 5, 3) := by decide +kernel
theorem dX7_feed_10 : decode cX7_feed 10 = .ok (.iconst (-1), 1) := by decide +kernel
theorem dX7_feed_11 : decode cX7_feed 11 = .ok (.ireturn, 1) := by decide +kernel
theorem dX7_feed_12 : decode cX7_feed 12 = .ok (.aload_n 0, 1) := by decide +kernel
theorem dX7_feed_13 : decode cX7_feed 13 = .ok (.getfield 124, 3) := by decide +kernel
theorem dX7_feed_16 : decode cX7_feed 16 = .ok (.bipush 120, 2) := by decide +kernel
theorem dX7_feed_18 : decode cX7_feed 18 = .ok (.if_icmp .lt 6, 3) := by decide +kernel
theorem dX7_feed_21 : decode cX7_feed 21 = .ok (.bipush (-3), 2) := by decide +kernel
theorem dX7_feed_23 : decode cX7_feed 23 = .ok (.ireturn, 1) := by decide +kernel
theorem dX7_feed_24 : decode cX7_feed 24 = .ok (.aload_n 0, 1) := by decide +kernel
theorem dX7_feed_25 : decode cX7_feed 25 = .ok (.getfield 59, 3) := by decide +kernel
theorem dX7_feed_28 : decode cX7_feed 28 = .ok (.aload_n 0, 1) := by decide +kernel
theorem dX7_feed_29 : decode cX7_feed 29 = .ok (.getfield 124, 3) := by decide +kernel
theorem dX7_feed_32 : decode cX7_feed 32 = .ok (.iload_n 1, 1) := by decide +kernel
theorem dX7_feed_33 : decode cX7_feed 33 = .ok (.iastore, 1) := by decide +kernel
theorem dX7_feed_34 : decode cX7_feed 34 = .ok (.aload_n 0, 1) := by decide +kernel
theorem dX7_feed_35 : decode cX7_feed 35 = .ok (.dup, 1) := by decide +kernel
theorem dX7_feed_36 : decode cX7_feed 36 = .ok (.getfield 124, 3) := by decide +kernel
theorem dX7_feed_39 : decode cX7_feed 39 = .ok (.iconst 1, 1) := by decide +kernel
theorem dX7_feed_40 : decode cX7_feed 40 = .ok (.iadd, 1) := by decide +kernel
theorem dX7_feed_41 : decode cX7_feed 41 = .ok (.putfield 124, 3) := by decide +kernel
theorem dX7_feed_44 : decode cX7_feed 44 = .ok (.aload_n 0, 1) := by decide +kernel
theorem dX7_feed_45 : decode cX7_feed 45 = .ok (.getfield 124, 3) := by decide +kernel
theorem dX7_feed_48 : decode cX7_feed 48 = .ok (.ireturn, 1) := by decide +kernel
theorem dX7_law_0 : decode cX7_law 0 = .ok (.aload_n 0, 1) := by decide +kernel
theorem dX7_law_1 : decode cX7_law 1 = .ok (.getfield 21, 3) := by decide +kernel
theorem dX7_law_4 : decode cX7_law 4 = .ok (.aload_n 0, 1) := by decide +kernel
theorem dX7_law_5 : decode cX7_law 5 = .ok (.getfield 59, 3) := by decide +kernel
theorem dX7_law_8 : decode cX7_law 8 = .ok (.aload_n 0, 1) := by decide +kernel
theorem dX7_law_9 : decode cX7_law 9 = .ok (.getfield 124, 3) := by decide +kernel
theorem dX7_law_12 : decode cX7_law 12 = .ok (.invokevirtual 127, 3) := by decide +kernel
theorem dX7_law_15 : decode cX7_law 15 = .ok (.istore_n 1, 1) := by decide +kernel
theorem dX7_law_16 : decode cX7_law 16 = .ok (.aload_n 0, 1) := by decide +kernel
theorem dX7_law_17 : decode cX7_law 17 = .ok (.iconst 0, 1) := by decide +kernel
theorem dX7_law_18 : decode cX7_law 18 = .ok (.putfield 124, 3) := by decide +kernel
theorem dX7_law_21 : decode cX7_law 21 = .ok (.iload_n 1, 1) := by decide +kernel
theorem dX7_law_22 : decode cX7_law 22 = .ok (.ifCond .ge 7, 3) := by decide +kernel
theorem dX7_law_25 : decode cX7_law 25 = .ok (.iconst 1, 1) := by decide +kernel
theorem dX7_law_26 : decode cX7_law 26 = .ok (.goto 7, 3) := by decide +kernel
theorem dX7_law_29 : decode cX7_law 29 = .ok (.bipush (-100), 2) := by decide +kernel
theorem dX7_law_31 : decode cX7_law 31 = .ok (.iload_n 1, 1) := by decide +kernel
theorem dX7_law_32 : decode cX7_law 32 = .ok (.isub, 1) := by decide +kernel
theorem dX7_law_33 : decode cX7_law 33 = .ok (.ireturn, 1) := by decide +kernel
theorem dX7_shown_0 : decode cX7_shown 0 = .ok (.iload_n 1, 1) := by decide +kernel
theorem dX7_shown_1 : decode cX7_shown 1 = .ok (.bipush 6, 2) := by decide +kernel
theorem dX7_shown_3 : decode cX7_shown 3 = .ok (.invokestatic 72, 3) := by decide +kernel
theorem dX7_shown_6 : decode cX7_shown 6 = .ok (.ifCond .eq 11, 3) := by decide +kernel
theorem dX7_shown_9 : decode cX7_shown 9 = .ok (.iload_n 2, 1) := by decide +kernel
theorem dX7_shown_10 : decode cX7_shown 10 = .ok (.iconst 2, 1) := by decide +kernel
theorem dX7_shown_11 : decode cX7_shown 11 = .ok (.invokestatic 72, 3) := by decide +kernel
theorem dX7_shown_14 : decode cX7_shown 14 = .ok (.ifCond .ne 7, 3) := by decide +kernel
theorem dX7_shown_17 : decode cX7_shown 17 = .ok (.ldc2_w 138, 3) := by decide +kernel
theorem dX7_shown_20 : decode cX7_shown 20 = .ok (.lreturn, 1) := by decide +kernel
theorem dX7_shown_21 : decode cX7_shown 21 = .ok (.aload_n 0, 1) := by decide +kernel
theorem dX7_shown_22 : decode cX7_shown 22 = .ok (.getfield 28, 3) := by decide +kernel
theorem dX7_shown_25 : decode cX7_shown 25 = .ok (.aload_n 0, 1) := by decide +kernel
theorem dX7_shown_26 : decode cX7_shown 26 = .ok (.getfield 12, 3) := by decide +kernel
theorem dX7_shown_29 : decode cX7_shown 29 = .ok (.aload_n 0, 1) := by decide +kernel
theorem dX7_shown_30 : decode cX7_shown 30 = .ok (.getfield 21, 3) := by decide +kernel
theorem dX7_shown_33 : decode cX7_shown 33 = .ok (.invokevirtual 140, 3) := by decide +kernel
theorem dX7_shown_36 : decode cX7_shown 36 = .ok (.aload_n 0, 1) := by decide +kernel
theorem dX7_shown_37 : decode cX7_shown 37 = .ok (.getfield 28, 3) := by decide +kernel
theorem dX7_shown_40 : decode cX7_shown 40 = .ok (.aload_n 0, 1) := by decide +kernel
theorem dX7_shown_41 : decode cX7_shown 41 = .ok (.getfield 12, 3) := by decide +kernel
theorem dX7_shown_44 : decode cX7_shown 44 = .ok (.iload_n 1, 1) := by decide +kernel
theorem dX7_shown_45 : decode cX7_shown 45 = .ok (.iconst 1, 1) := by decide +kernel
theorem dX7_shown_46 : decode cX7_shown 46 = .ok (.invokevirtual 144, 3) := by decide +kernel
theorem dX7_shown_49 : decode cX7_shown 49 = .ok (.ldc2_w 148, 3) := by decide +kernel
theorem dX7_shown_52 : decode cX7_shown 52 = .ok (.aload_n 0, 1) := by decide +kernel
theorem dX7_shown_53 : decode cX7_shown 53 = .ok (.getfield 12, 3) := by decide +kernel
theorem dX7_shown_56 : decode cX7_shown 56 = .ok (.invokevirtual 120, 3) := by decide +kernel
theorem dX7_shown_59 : decode cX7_shown 59 = .ok (.i2l, 1) := by decide +kernel
theorem dX7_shown_60 : decode cX7_shown 60 = .ok (.lmul, 1) := by decide +kernel
theorem dX7_shown_61 : decode cX7_shown 61 = .ok (.iload_n 2, 1) := by decide +kernel
theorem dX7_shown_62 : decode cX7_shown 62 = .ok (.invokestatic 150, 3) := by decide +kernel
theorem dX7_shown_65 : decode cX7_shown 65 = .ok (.lreturn, 1) := by decide +kernel
theorem dX7_other_0 : decode cX7_other 0 = .ok (.iload_n 1, 1) := by decide +kernel
theorem dX7_other_1 : decode cX7_other 1 = .ok (.ifCond .lt 35, 3) := by decide +kernel
theorem dX7_other_4 : decode cX7_other 4 = .ok (.iload_n 1, 1) := by decide +kernel
theorem dX7_other_5 : decode cX7_other 5 = .ok (.bipush 10, 2) := by decide +kernel
theorem dX7_other_7 : decode cX7_other 7 = .ok (.idiv, 1) := by decide +kernel
theorem dX7_other_8 : decode cX7_other 8 = .ok (.bipush 6, 2) := by decide +kernel
theorem dX7_other_10 : decode cX7_other 10 = .ok (.invokestatic 72, 3) := by decide +kernel
theorem dX7_other_13 : decode cX7_other 13 = .ok (.ifCond .eq 23, 3) := by decide +kernel
theorem dX7_other_16 : decode cX7_other 16 = .ok (.iload_n 1, 1) := by decide +kernel
theorem dX7_other_17 : decode cX7_other 17 = .ok (.bipush 10, 2) := by decide +kernel
theorem dX7_other_19 : decode cX7_other 19 = .ok (.irem, 1) := by decide +kernel
theorem dX7_other_20 : decode cX7_other 20 = .ok (.bipush 6, 2) := by decide +kernel
theorem dX7_other_22 : decode cX7_other 22 = .ok (.invokestatic 72, 3) := by decide +kernel
theorem dX7_other_25 : decode cX7_other 25 = .ok (.ifCond .eq 11, 3) := by decide +kernel
theorem dX7_other_28 : decode cX7_other 28 = .ok (.iload_n 2, 1) := by decide +kernel
theorem dX7_other_29 : decode cX7_other 29 = .ok (.iconst 2, 1) := by decide +kernel
theorem dX7_other_30 : decode cX7_other 30 = .ok (.invokestatic 72, 3) := by decide +kernel
theorem dX7_other_33 : decode cX7_other 33 = .ok (.ifCond .ne 7, 3) := by decide +kernel
theorem dX7_other_36 : decode cX7_other 36 = .ok (.ldc2_w 138, 3) := by decide +kernel
theorem dX7_other_39 : decode cX7_other 39 = .ok (.lreturn, 1) := by decide +kernel
theorem dX7_other_40 : decode cX7_other 40 = .ok (.aload_n 0, 1) := by decide +kernel
theorem dX7_other_41 : decode cX7_other 41 = .ok (.getfield 28, 3) := by decide +kernel
theorem dX7_other_44 : decode cX7_other 44 = .ok (.aload_n 0, 1) := by decide +kernel
theorem dX7_other_45 : decode cX7_other 45 = .ok (.getfield 12, 3) := by decide +kernel
theorem dX7_other_48 : decode cX7_other 48 = .ok (.aload_n 0, 1) := by decide +kernel
theorem dX7_other_49 : decode cX7_other 49 = .ok (.getfield 21, 3) := by decide +kernel
theorem dX7_other_52 : decode cX7_other 52 = .ok (.invokevirtual 140, 3) := by decide +kernel
theorem dX7_other_55 : decode cX7_other 55 = .ok (.aload_n 0, 1) := by decide +kernel
theorem dX7_other_56 : decode cX7_other 56 = .ok (.getfield 28, 3) := by decide +kernel
theorem dX7_other_59 : decode cX7_other 59 = .ok (.aload_n 0, 1) := by decide +kernel
theorem dX7_other_60 : decode cX7_other 60 = .ok (.getfield 12, 3) := by decide +kernel
theorem dX7_other_63 : decode cX7_other 63 = .ok (.iload_n 1, 1) := by decide +kernel
theorem dX7_other_64 : decode cX7_other 64 = .ok (.bipush 10, 2) := by decide +kernel
theorem dX7_other_66 : decode cX7_other 66 = .ok (.idiv, 1) := by decide +kernel
theorem dX7_other_67 : decode cX7_other 67 = .ok (.iload_n 1, 1) := by decide +kernel
theorem dX7_other_68 : decode cX7_other 68 = .ok (.bipush 10, 2) := by decide +kernel
theorem dX7_other_70 : decode cX7_other 70 = .ok (.irem, 1) := by decide +kernel
theorem dX7_other_71 : decode cX7_other 71 = .ok (.invokevirtual 154, 3) := by decide +kernel
theorem dX7_other_74 : decode cX7_other 74 = .ok (.lstore_n 3, 1) := by decide +kernel
theorem dX7_other_75 : decode cX7_other 75 = .ok (.lload_n 3, 1) := by decide +kernel
theorem dX7_other_76 : decode cX7_other 76 = .ok (.aload_n 0, 1) := by decide +kernel
theorem dX7_other_77 : decode cX7_other 77 = .ok (.getfield 28, 3) := by decide +kernel
theorem dX7_other_80 : decode cX7_other 80 = .ok (.aload_n 0, 1) := by decide +kernel
theorem dX7_other_81 : decode cX7_other 81 = .ok (.getfield 12, 3) := by decide +kernel
theorem dX7_other_84 : decode cX7_other 84 = .ok (.iload_n 1, 1) := by decide +kernel
theorem dX7_other_85 : decode cX7_other 85 = .ok (.bipush 10, 2) := by decide +kernel
theorem dX7_other_87 : decode cX7_other 87 = .ok (.idiv, 1) := by decide +kernel
theorem dX7_other_88 : decode cX7_other 88 = .ok (.iconst 1, 1) := by decide +kernel
theorem dX7_other_89 : decode cX7_other 89 = .ok (.invokevirtual 144, 3) := by decide +kernel
theorem dX7_other_92 : decode cX7_other 92 = .ok (.iload_n 2, 1) := by decide +kernel
theorem dX7_other_93 : decode cX7_other 93 = .ok (.invokestatic 150, 3) := by decide +kernel
theorem dX7_other_96 : decode cX7_other 96 = .ok (.lreturn, 1) := by decide +kernel
theorem dX7_which_0 : decode cX7_which 0 = .ok (.iload_n 1, 1) := by decide +kernel
theorem dX7_which_1 : decode cX7_which 1 = .ok (.aload_n 0, 1) := by decide +kernel
theorem dX7_which_2 : decode cX7_which 2 = .ok (.getfield 12, 3) := by decide +kernel
theorem dX7_which_5 : decode cX7_which 5 = .ok (.getfield 91, 3) := by decide +kernel
theorem dX7_which_8 : decode cX7_which 8 = .ok (.invokestatic 72, 3) := by decide +kernel
theorem dX7_which_11 : decode cX7_which 11 = .ok (.ifCond .eq 18, 3) := by decide +kernel
theorem dX7_which_14 : decode cX7_which 14 = .ok (.iload_n 2, 1) := by decide +kernel
theorem dX7_which_15 : decode cX7_which 15 = .ok (.invokestatic 157, 3) := by decide +kernel
theorem dX7_which_18 : decode cX7_which 18 = .ok (.ifCond .eq 11, 3) := by decide +kernel
theorem dX7_which_21 : decode cX7_which 21 = .ok (.iload_n 3, 1) := by decide +kernel
theorem dX7_which_22 : decode cX7_which 22 = .ok (.iconst 2, 1) := by decide +kernel
theorem dX7_which_23 : decode cX7_which 23 = .ok (.invokestatic 72, 3) := by decide +kernel
theorem dX7_which_26 : decode cX7_which 26 = .ok (.ifCond .ne 7, 3) := by decide +kernel
theorem dX7_which_29 : decode cX7_which 29 = .ok (.ldc2_w 138, 3) := by decide +kernel
theorem dX7_which_32 : decode cX7_which 32 = .ok (.lreturn, 1) := by decide +kernel
theorem dX7_which_33 : decode cX7_which 33 = .ok (.aload_n 0, 1) := by decide +kernel
theorem dX7_which_34 : decode cX7_which 34 = .ok (.getfield 28, 3) := by decide +kernel
theorem dX7_which_37 : decode cX7_which 37 = .ok (.aload_n 0, 1) := by decide +kernel
theorem dX7_which_38 : decode cX7_which 38 = .ok (.getfield 12, 3) := by decide +kernel
theorem dX7_which_41 : decode cX7_which 41 = .ok (.aload_n 0, 1) := by decide +kernel
theorem dX7_which_42 : decode cX7_which 42 = .ok (.getfield 21, 3) := by decide +kernel
theorem dX7_which_45 : decode cX7_which 45 = .ok (.invokevirtual 140, 3) := by decide +kernel
theorem dX7_which_48 : decode cX7_which 48 = .ok (.aload_n 0, 1) := by decide +kernel
theorem dX7_which_49 : decode cX7_which 49 = .ok (.getfield 28, 3) := by decide +kernel
theorem dX7_which_52 : decode cX7_which 52 = .ok (.aload_n 0, 1) := by decide +kernel
theorem dX7_which_53 : decode cX7_which 53 = .ok (.getfield 12, 3) := by decide +kernel
theorem dX7_which_56 : decode cX7_which 56 = .ok (.iload_n 1, 1) := by decide +kernel
theorem dX7_which_57 : decode cX7_which 57 = .ok (.iload_n 2, 1) := by decide +kernel
theorem dX7_which_58 : decode cX7_which 58 = .ok (.bipush 10, 2) := by decide +kernel
theorem dX7_which_60 : decode cX7_which 60 = .ok (.idiv, 1) := by decide +kernel
theorem dX7_which_61 : decode cX7_which 61 = .ok (.iload_n 2, 1) := by decide +kernel
theorem dX7_which_62 : decode cX7_which 62 = .ok (.bipush 10, 2) := by decide +kernel
theorem dX7_which_64 : decode cX7_which 64 = .ok (.irem, 1) := by decide +kernel
theorem dX7_which_65 : decode cX7_which 65 = .ok (.invokevirtual 160, 3) := by decide +kernel
theorem dX7_which_68 : decode cX7_which 68 = .ok (.lstore 4, 2) := by decide +kernel
theorem dX7_which_70 : decode cX7_which 70 = .ok (.lload 4, 2) := by decide +kernel
theorem dX7_which_72 : decode cX7_which 72 = .ok (.aload_n 0, 1) := by decide +kernel
theorem dX7_which_73 : decode cX7_which 73 = .ok (.getfield 28, 3) := by decide +kernel
theorem dX7_which_76 : decode cX7_which 76 = .ok (.aload_n 0, 1) := by decide +kernel
theorem dX7_which_77 : decode cX7_which 77 = .ok (.getfield 12, 3) := by decide +kernel
theorem dX7_which_80 : decode cX7_which 80 = .ok (.iload_n 2, 1) := by decide +kernel
theorem dX7_which_81 : decode cX7_which 81 = .ok (.bipush 10, 2) := by decide +kernel
theorem dX7_which_83 : decode cX7_which 83 = .ok (.idiv, 1) := by decide +kernel
theorem dX7_which_84 : decode cX7_which 84 = .ok (.iload_n 2, 1) := by decide +kernel
theorem dX7_which_85 : decode cX7_which 85 = .ok (.bipush 10, 2) := by decide +kernel
theorem dX7_which_87 : decode cX7_which 87 = .ok (.irem, 1) := by decide +kernel
theorem dX7_which_88 : decode cX7_which 88 = .ok (.invokevirtual 144, 3) := by decide +kernel
theorem dX7_which_91 : decode cX7_which 91 = .ok (.iload_n 3, 1) := by decide +kernel
theorem dX7_which_92 : decode cX7_which 92 = .ok (.invokestatic 150, 3) := by decide +kernel
theorem dX7_which_95 : decode cX7_which 95 = .ok (.lreturn, 1) := by decide +kernel
theorem dX7_again_0 : decode cX7_again 0 = .ok (.iload_n 1, 1) := by decide +kernel
theorem dX7_again_1 : decode cX7_again 1 = .ok (.invokestatic 157, 3) := by decide +kernel
theorem dX7_again_4 : decode cX7_again 4 = .ok (.ifCond .eq 11, 3) := by decide +kernel
theorem dX7_again_7 : decode cX7_again 7 = .ok (.iload_n 2, 1) := by decide +kernel
theorem dX7_again_8 : decode cX7_again 8 = .ok (.iconst 2, 1) := by decide +kernel
theorem dX7_again_9 : decode cX7_again 9 = .ok (.invokestatic 72, 3) := by decide +kernel
theorem dX7_again_12 : decode cX7_again 12 = .ok (.ifCond .ne 7, 3) := by decide +kernel
theorem dX7_again_15 : decode cX7_again 15 = .ok (.ldc2_w 138, 3) := by decide +kernel
theorem dX7_again_18 : decode cX7_again 18 = .ok (.lreturn, 1) := by decide +kernel
theorem dX7_again_19 : decode cX7_again 19 = .ok (.aload_n 0, 1) := by decide +kernel
theorem dX7_again_20 : decode cX7_again 20 = .ok (.getfield 28, 3) := by decide +kernel
theorem dX7_again_23 : decode cX7_again 23 = .ok (.aload_n 0, 1) := by decide +kernel
theorem dX7_again_24 : decode cX7_again 24 = .ok (.getfield 12, 3) := by decide +kernel
theorem dX7_again_27 : decode cX7_again 27 = .ok (.aload_n 0, 1) := by decide +kernel
theorem dX7_again_28 : decode cX7_again 28 = .ok (.getfield 21, 3) := by decide +kernel
theorem dX7_again_31 : decode cX7_again 31 = .ok (.invokevirtual 140, 3) := by decide +kernel
theorem dX7_again_34 : decode cX7_again 34 = .ok (.aload_n 0, 1) := by decide +kernel
theorem dX7_again_35 : decode cX7_again 35 = .ok (.getfield 28, 3) := by decide +kernel
theorem dX7_again_38 : decode cX7_again 38 = .ok (.aload_n 0, 1) := by decide +kernel
theorem dX7_again_39 : decode cX7_again 39 = .ok (.getfield 12, 3) := by decide +kernel
theorem dX7_again_42 : decode cX7_again 42 = .ok (.iload_n 1, 1) := by decide +kernel
theorem dX7_again_43 : decode cX7_again 43 = .ok (.bipush 10, 2) := by decide +kernel
theorem dX7_again_45 : decode cX7_again 45 = .ok (.idiv, 1) := by decide +kernel
theorem dX7_again_46 : decode cX7_again 46 = .ok (.iload_n 1, 1) := by decide +kernel
theorem dX7_again_47 : decode cX7_again 47 = .ok (.bipush 10, 2) := by decide +kernel
theorem dX7_again_49 : decode cX7_again 49 = .ok (.irem, 1) := by decide +kernel
theorem dX7_again_50 : decode cX7_again 50 = .ok (.invokevirtual 144, 3) := by decide +kernel
theorem dX7_again_53 : decode cX7_again 53 = .ok (.lstore_n 3, 1) := by decide +kernel
theorem dX7_again_54 : decode cX7_again 54 = .ok (.aload_n 0, 1) := by decide +kernel
theorem dX7_again_55 : decode cX7_again 55 = .ok (.getfield 28, 3) := by decide +kernel
theorem dX7_again_58 : decode cX7_again 58 = .ok (.aload_n 0, 1) := by decide +kernel
theorem dX7_again_59 : decode cX7_again 59 = .ok (.getfield 12, 3) := by decide +kernel
theorem dX7_again_62 : decode cX7_again 62 = .ok (.iload_n 1, 1) := by decide +kernel
theorem dX7_again_63 : decode cX7_again 63 = .ok (.bipush 10, 2) := by decide +kernel
theorem dX7_again_65 : decode cX7_again 65 = .ok (.idiv, 1) := by decide +kernel
theorem dX7_again_66 : decode cX7_again 66 = .ok (.iload_n 1, 1) := by decide +kernel
theorem dX7_again_67 : decode cX7_again 67 = .ok (.bipush 10, 2) := by decide +kernel
theorem dX7_again_69 : decode cX7_again 69 = .ok (.irem, 1) := by decide +kernel
theorem dX7_again_70 : decode cX7_again 70 = .ok (.iconst 1, 1) := by decide +kernel
theorem dX7_again_71 : decode cX7_again 71 = .ok (.iadd, 1) := by decide +kernel
theorem dX7_again_72 : decode cX7_again 72 = .ok (.invokevirtual 144, 3) := by decide +kernel
theorem dX7_again_75 : decode cX7_again 75 = .ok (.lload_n 3, 1) := by decide +kernel
theorem dX7_again_76 : decode cX7_again 76 = .ok (.ldc2_w 148, 3) := by decide +kernel
theorem dX7_again_79 : decode cX7_again 79 = .ok (.lmul, 1) := by decide +kernel
theorem dX7_again_80 : decode cX7_again 80 = .ok (.iload_n 2, 1) := by decide +kernel
theorem dX7_again_81 : decode cX7_again 81 = .ok (.invokestatic 150, 3) := by decide +kernel
theorem dX7_again_84 : decode cX7_again 84 = .ok (.lreturn, 1) := by decide +kernel
theorem dX7_mayBeTimes_0 : decode cX7_mayBeTimes 0 = .ok (.iload_n 0, 1) := by decide +kernel
theorem dX7_mayBeTimes_1 : decode cX7_mayBeTimes 1 = .ok (.ifCond .lt 35, 3) := by decide +kernel
theorem dX7_mayBeTimes_4 : decode cX7_mayBeTimes 4 = .ok (.iload_n 0, 1) := by decide +kernel
theorem dX7_mayBeTimes_5 : decode cX7_mayBeTimes 5 = .ok (.bipush 10, 2) := by decide +kernel
theorem dX7_mayBeTimes_7 : decode cX7_mayBeTimes 7 = .ok (.idiv, 1) := by decide +kernel
theorem dX7_mayBeTimes_8 : decode cX7_mayBeTimes 8 = .ok (.bipush 6, 2) := by decide +kernel
theorem dX7_mayBeTimes_10 : decode cX7_mayBeTimes 10 = .ok (.invokestatic 72, 3) := by decide +kernel
theorem dX7_mayBeTimes_13 : decode cX7_mayBeTimes 13 = .ok (.ifCond .eq 23, 3) := by decide +kernel
theorem dX7_mayBeTimes_16 : decode cX7_mayBeTimes 16 = .ok (.iload_n 0, 1) := by decide +kernel
theorem dX7_mayBeTimes_17 : decode cX7_mayBeTimes 17 = .ok (.bipush 10, 2) := by decide +kernel
theorem dX7_mayBeTimes_19 : decode cX7_mayBeTimes 19 = .ok (.irem, 1) := by decide +kernel
theorem dX7_mayBeTimes_20 : decode cX7_mayBeTimes 20 = .ok (.iconst 1, 1) := by decide +kernel
theorem dX7_mayBeTimes_21 : decode cX7_mayBeTimes 21 = .ok (.if_icmp .lt 15, 3) := by decide +kernel
theorem dX7_mayBeTimes_24 : decode cX7_mayBeTimes 24 = .ok (.iload_n 0, 1) := by decide +kernel
theorem dX7_mayBeTimes_25 : decode cX7_mayBeTimes 25 = .ok (.bipush 10, 2) := by decide +kernel
theorem dX7_mayBeTimes_27 : decode cX7_mayBeTimes 27 = .ok (.irem, 1) := by decide +kernel
theorem dX7_mayBeTimes_28 : decode cX7_mayBeTimes 28 = .ok (.iconst 4, 1) := by decide +kernel
theorem dX7_mayBeTimes_29 : decode cX7_mayBeTimes 29 = .ok (.if_icmp .gt 7, 3) := by decide +kernel
theorem dX7_mayBeTimes_32 : decode cX7_mayBeTimes 32 = .ok (.iconst 1, 1) := by decide +kernel
theorem dX7_mayBeTimes_33 : decode cX7_mayBeTimes 33 = .ok (.goto 4, 3) := by decide +kernel
theorem dX7_mayBeTimes_36 : decode cX7_mayBeTimes 36 = .ok (.iconst 0, 1) := by decide +kernel
theorem dX7_mayBeTimes_37 : decode cX7_mayBeTimes 37 = .ok (.ireturn, 1) := by decide +kernel
theorem dX7_cheated_0 : decode cX7_cheated 0 = .ok (.aload_n 0, 1) := by decide +kernel
theorem dX7_cheated_1 : decode cX7_cheated 1 = .ok (.iload_n 1, 1) := by decide +kernel
theorem dX7_cheated_2 : decode cX7_cheated 2 = .ok (.invokevirtual 164, 3) := by decide +kernel
theorem dX7_cheated_5 : decode cX7_cheated 5 = .ok (.istore_n 2, 1) := by decide +kernel
theorem dX7_cheated_6 : decode cX7_cheated 6 = .ok (.iload_n 2, 1) := by decide +kernel
theorem dX7_cheated_7 : decode cX7_cheated 7 = .ok (.ifCond .ge 5, 3) := by decide +kernel
theorem dX7_cheated_10 : decode cX7_cheated 10 = .ok (.iload_n 2, 1) := by decide +kernel
theorem dX7_cheated_11 : decode cX7_cheated 11 = .ok (.ireturn, 1) := by decide +kernel
theorem dX7_cheated_12 : decode cX7_cheated 12 = .ok (.aload_n 0, 1) := by decide +kernel
theorem dX7_cheated_13 : decode cX7_cheated 13 = .ok (.getfield 55, 3) := by decide +kernel
theorem dX7_cheated_16 : decode cX7_cheated 16 = .ok (.iload_n 1, 1) := by decide +kernel
theorem dX7_cheated_17 : decode cX7_cheated 17 = .ok (.aaload, 1) := by decide +kernel
theorem dX7_cheated_18 : decode cX7_cheated 18 = .ok (.astore_n 3, 1) := by decide +kernel
theorem dX7_cheated_19 : decode cX7_cheated 19 = .ok (.aload_n 3, 1) := by decide +kernel
theorem dX7_cheated_20 : decode cX7_cheated 20 = .ok (.getfield 88, 3) := by decide +kernel
theorem dX7_cheated_23 : decode cX7_cheated 23 = .ok (.iconst 3, 1) := by decide +kernel
theorem dX7_cheated_24 : decode cX7_cheated 24 = .ok (.if_icmp .le 5, 3) := by decide +kernel
theorem dX7_cheated_27 : decode cX7_cheated 27 = .ok (.iconst (-1), 1) := by decide +kernel
theorem dX7_cheated_28 : decode cX7_cheated 28 = .ok (.ireturn, 1) := by decide +kernel
theorem dX7_cheated_29 : decode cX7_cheated 29 = .ok (.iconst 0, 1) := by decide +kernel
theorem dX7_cheated_30 : decode cX7_cheated 30 = .ok (.istore 4, 2) := by decide +kernel
theorem dX7_cheated_32 : decode cX7_cheated 32 = .ok (.iload 4, 2) := by decide +kernel
theorem dX7_cheated_34 : decode cX7_cheated 34 = .ok (.aload_n 3, 1) := by decide +kernel
theorem dX7_cheated_35 : decode cX7_cheated 35 = .ok (.getfield 88, 3) := by decide +kernel
theorem dX7_cheated_38 : decode cX7_cheated 38 = .ok (.if_icmp .ge 37, 3) := by decide +kernel
theorem dX7_cheated_41 : decode cX7_cheated 41 = .ok (.aload_n 3, 1) := by decide +kernel
theorem dX7_cheated_42 : decode cX7_cheated 42 = .ok (.getfield 94, 3) := by decide +kernel
theorem dX7_cheated_45 : decode cX7_cheated 45 = .ok (.iload 4, 2) := by decide +kernel
theorem dX7_cheated_47 : decode cX7_cheated 47 = .ok (.laload, 1) := by decide +kernel
theorem dX7_cheated_48 : decode cX7_cheated 48 = .ok (.lconst 0, 1) := by decide +kernel
theorem dX7_cheated_49 : decode cX7_cheated 49 = .ok (.lcmp, 1) := by decide +kernel
theorem dX7_cheated_50 : decode cX7_cheated 50 = .ok (.ifCond .lt 17, 3) := by decide +kernel
theorem dX7_cheated_53 : decode cX7_cheated 53 = .ok (.aload_n 3, 1) := by decide +kernel
theorem dX7_cheated_54 : decode cX7_cheated 54 = .ok (.getfield 94, 3) := by decide +kernel
theorem dX7_cheated_57 : decode cX7_cheated 57 = .ok (.iload 4, 2) := by decide +kernel
theorem dX7_cheated_59 : decode cX7_cheated 59 = .ok (.laload, 1) := by decide +kernel
theorem dX7_cheated_60 : decode cX7_cheated 60 = .ok (.ldc2_w 168, 3) := by decide +kernel
theorem dX7_cheated_63 : decode cX7_cheated 63 = .ok (.lcmp, 1) := by decide +kernel
theorem dX7_cheated_64 : decode cX7_cheated 64 = .ok (.ifCond .lt 5, 3) := by decide +kernel
theorem dX7_cheated_67 : decode cX7_cheated 67 = .ok (.iconst (-1), 1) := by decide +kernel
theorem dX7_cheated_68 : decode cX7_cheated 68 = .ok (.ireturn, 1) := by decide +kernel
theorem dX7_cheated_69 : decode cX7_cheated 69 = .ok (.iinc 4 1, 3) := by decide +kernel
theorem dX7_cheated_72 : decode cX7_cheated 72 = .ok (.goto (-40), 3) := by decide +kernel
theorem dX7_cheated_75 : decode cX7_cheated 75 = .ok (.aload_n 0, 1) := by decide +kernel
theorem dX7_cheated_76 : decode cX7_cheated 76 = .ok (.getfield 28, 3) := by decide +kernel
theorem dX7_cheated_79 : decode cX7_cheated 79 = .ok (.aload_n 0, 1) := by decide +kernel
theorem dX7_cheated_80 : decode cX7_cheated 80 = .ok (.getfield 12, 3) := by decide +kernel
theorem dX7_cheated_83 : decode cX7_cheated 83 = .ok (.aload_n 0, 1) := by decide +kernel
theorem dX7_cheated_84 : decode cX7_cheated 84 = .ok (.getfield 21, 3) := by decide +kernel
theorem dX7_cheated_87 : decode cX7_cheated 87 = .ok (.invokevirtual 140, 3) := by decide +kernel
theorem dX7_cheated_90 : decode cX7_cheated 90 = .ok (.aload_n 0, 1) := by decide +kernel
theorem dX7_cheated_91 : decode cX7_cheated 91 = .ok (.getfield 28, 3) := by decide +kernel
theorem dX7_cheated_94 : decode cX7_cheated 94 = .ok (.aload_n 0, 1) := by decide +kernel
theorem dX7_cheated_95 : decode cX7_cheated 95 = .ok (.getfield 12, 3) := by decide +kernel
theorem dX7_cheated_98 : decode cX7_cheated 98 = .ok (.aload_n 0, 1) := by decide +kernel
theorem dX7_cheated_99 : decode cX7_cheated 99 = .ok (.getfield 21, 3) := by decide +kernel
theorem dX7_cheated_102 : decode cX7_cheated 102 = .ok (.aload_n 3, 1) := by decide +kernel
theorem dX7_cheated_103 : decode cX7_cheated 103 = .ok (.invokevirtual 170, 3) := by decide +kernel
theorem dX7_cheated_106 : decode cX7_cheated 106 = .ok (.ireturn, 1) := by decide +kernel
theorem dX7_judge_0 : decode cX7_judge 0 = .ok (.aload_n 0, 1) := by decide +kernel
theorem dX7_judge_1 : decode cX7_judge 1 = .ok (.iload_n 1, 1) := by decide +kernel
theorem dX7_judge_2 : decode cX7_judge 2 = .ok (.invokevirtual 164, 3) := by decide +kernel
theorem dX7_judge_5 : decode cX7_judge 5 = .ok (.istore_n 2, 1) := by decide +kernel
theorem dX7_judge_6 : decode cX7_judge 6 = .ok (.iload_n 2, 1) := by decide +kernel
theorem dX7_judge_7 : decode cX7_judge 7 = .ok (.ifCond .ge 5, 3) := by decide +kernel
theorem dX7_judge_10 : decode cX7_judge 10 = .ok (.iload_n 2, 1) := by decide +kernel
theorem dX7_judge_11 : decode cX7_judge 11 = .ok (.ireturn, 1) := by decide +kernel
theorem dX7_judge_12 : decode cX7_judge 12 = .ok (.aload_n 0, 1) := by decide +kernel
theorem dX7_judge_13 : decode cX7_judge 13 = .ok (.getfield 55, 3) := by decide +kernel
theorem dX7_judge_16 : decode cX7_judge 16 = .ok (.iload_n 1, 1) := by decide +kernel
theorem dX7_judge_17 : decode cX7_judge 17 = .ok (.aaload, 1) := by decide +kernel
theorem dX7_judge_18 : decode cX7_judge 18 = .ok (.astore_n 3, 1) := by decide +kernel
theorem dX7_judge_19 : decode cX7_judge 19 = .ok (.aload_n 0, 1) := by decide +kernel
theorem dX7_judge_20 : decode cX7_judge 20 = .ok (.getfield 28, 3) := by decide +kernel
theorem dX7_judge_23 : decode cX7_judge 23 = .ok (.aload_n 0, 1) := by decide +kernel
theorem dX7_judge_24 : decode cX7_judge 24 = .ok (.getfield 12, 3) := by decide +kernel
theorem dX7_judge_27 : decode cX7_judge 27 = .ok (.aload_n 0, 1) := by decide +kernel
theorem dX7_judge_28 : decode cX7_judge 28 = .ok (.getfield 21, 3) := by decide +kernel
theorem dX7_judge_31 : decode cX7_judge 31 = .ok (.invokevirtual 140, 3) := by decide +kernel
theorem dX7_judge_34 : decode cX7_judge 34 = .ok (.iconst 0, 1) := by decide +kernel
theorem dX7_judge_35 : decode cX7_judge 35 = .ok (.istore 4, 2) := by decide +kernel
theorem dX7_judge_37 : decode cX7_judge 37 = .ok (.iload 4, 2) := by decide +kernel
theorem dX7_judge_39 : decode cX7_judge 39 = .ok (.aload_n 3, 1) := by decide +kernel
theorem dX7_judge_40 : decode cX7_judge 40 = .ok (.getfield 88, 3) := by decide +kernel
theorem dX7_judge_43 : decode cX7_judge 43 = .ok (.if_icmp .ge 57, 3) := by decide +kernel
theorem dX7_judge_46 : decode cX7_judge 46 = .ok (.aload_n 3, 1) := by decide +kernel
theorem dX7_judge_47 : decode cX7_judge 47 = .ok (.getfield 94, 3) := by decide +kernel
theorem dX7_judge_50 : decode cX7_judge 50 = .ok (.iload 4, 2) := by decide +kernel
theorem dX7_judge_52 : decode cX7_judge 52 = .ok (.laload, 1) := by decide +kernel
theorem dX7_judge_53 : decode cX7_judge 53 = .ok (.lstore 5, 2) := by decide +kernel
theorem dX7_judge_55 : decode cX7_judge 55 = .ok (.lload 5, 2) := by decide +kernel
theorem dX7_judge_57 : decode cX7_judge 57 = .ok (.lconst 0, 1) := by decide +kernel
theorem dX7_judge_58 : decode cX7_judge 58 = .ok (.lcmp, 1) := by decide +kernel
theorem dX7_judge_59 : decode cX7_judge 59 = .ok (.ifCond .lt 32, 3) := by decide +kernel
theorem dX7_judge_62 : decode cX7_judge 62 = .ok (.lload 5, 2) := by decide +kernel
theorem dX7_judge_64 : decode cX7_judge 64 = .ok (.ldc2_w 168, 3) := by decide +kernel
theorem dX7_judge_67 : decode cX7_judge 67 = .ok (.lcmp, 1) := by decide +kernel
theorem dX7_judge_68 : decode cX7_judge 68 = .ok (.ifCond .ge 23, 3) := by decide +kernel
theorem dX7_judge_71 : decode cX7_judge 71 = .ok (.aload_n 0, 1) := by decide +kernel
theorem dX7_judge_72 : decode cX7_judge 72 = .ok (.getfield 28, 3) := by decide +kernel
theorem dX7_judge_75 : decode cX7_judge 75 = .ok (.aload_n 0, 1) := by decide +kernel
theorem dX7_judge_76 : decode cX7_judge 76 = .ok (.getfield 12, 3) := by decide +kernel
theorem dX7_judge_79 : decode cX7_judge 79 = .ok (.lload 5, 2) := by decide +kernel
theorem dX7_judge_81 : decode cX7_judge 81 = .ok (.l2i, 1) := by decide +kernel
theorem dX7_judge_82 : decode cX7_judge 82 = .ok (.iconst 1, 1) := by decide +kernel
theorem dX7_judge_83 : decode cX7_judge 83 = .ok (.invokevirtual 144, 3) := by decide +kernel
theorem dX7_judge_86 : decode cX7_judge 86 = .ok (.lconst 0, 1) := by decide +kernel
theorem dX7_judge_87 : decode cX7_judge 87 = .ok (.lcmp, 1) := by decide +kernel
theorem dX7_judge_88 : decode cX7_judge 88 = .ok (.ifCond .ne 6, 3) := by decide +kernel
theorem dX7_judge_91 : decode cX7_judge 91 = .ok (.iload 4, 2) := by decide +kernel
theorem dX7_judge_93 : decode cX7_judge 93 = .ok (.ireturn, 1) := by decide +kernel
theorem dX7_judge_94 : decode cX7_judge 94 = .ok (.iinc 4 1, 3) := by decide +kernel
theorem dX7_judge_97 : decode cX7_judge 97 = .ok (.goto (-60), 3) := by decide +kernel
theorem dX7_judge_100 : decode cX7_judge 100 = .ok (.bipush (-2), 2) := by decide +kernel
theorem dX7_judge_102 : decode cX7_judge 102 = .ok (.ireturn, 1) := by decide +kernel
theorem dX7_refusedBytes_0 : decode cX7_refusedBytes 0 = .ok (.iload_n 1, 1) := by decide +kernel
theorem dX7_refusedBytes_1 : decode cX7_refusedBytes 1 = .ok (.bipush 6, 2) := by decide +kernel
theorem dX7_refusedBytes_3 : decode cX7_refusedBytes 3 = .ok (.invokestatic 72, 3) := by decide +kernel
theorem dX7_refusedBytes_6 : decode cX7_refusedBytes 6 = .ok (.ifCond .ne 5, 3) := by decide +kernel
theorem dX7_refusedBytes_9 : decode cX7_refusedBytes 9 = .ok (.iconst (-1), 1) := by decide +kernel
theorem dX7_refusedBytes_10 : decode cX7_refusedBytes 10 = .ok (.ireturn, 1) := by decide +kernel
theorem dX7_refusedBytes_11 : decode cX7_refusedBytes 11 = .ok (.aload_n 0, 1) := by decide +kernel
theorem dX7_refusedBytes_12 : decode cX7_refusedBytes 12 = .ok (.getfield 55, 3) := by decide +kernel
theorem dX7_refusedBytes_15 : decode cX7_refusedBytes 15 = .ok (.iload_n 1, 1) := by decide +kernel
theorem dX7_refusedBytes_16 : decode cX7_refusedBytes 16 = .ok (.aaload, 1) := by decide +kernel
theorem dX7_refusedBytes_17 : decode cX7_refusedBytes 17 = .ok (.getfield 76, 3) := by decide +kernel
theorem dX7_refusedBytes_20 : decode cX7_refusedBytes 20 = .ok (.ifCond .ne 6, 3) := by decide +kernel
theorem dX7_refusedBytes_23 : decode cX7_refusedBytes 23 = .ok (.bipush (-11), 2) := by decide +kernel
theorem dX7_refusedBytes_25 : decode cX7_refusedBytes 25 = .ok (.ireturn, 1) := by decide +kernel
theorem dX7_refusedBytes_26 : decode cX7_refusedBytes 26 = .ok (.aload_n 0, 1) := by decide +kernel
theorem dX7_refusedBytes_27 : decode cX7_refusedBytes 27 = .ok (.getfield 55, 3) := by decide +kernel
theorem dX7_refusedBytes_30 : decode cX7_refusedBytes 30 = .ok (.iload_n 1, 1) := by decide +kernel
theorem dX7_refusedBytes_31 : decode cX7_refusedBytes 31 = .ok (.aaload, 1) := by decide +kernel
theorem dX7_refusedBytes_32 : decode cX7_refusedBytes 32 = .ok (.iconst 0, 1) := by decide +kernel
theorem dX7_refusedBytes_33 : decode cX7_refusedBytes 33 = .ok (.invokevirtual 80, 3) := by decide +kernel
theorem dX7_refusedBytes_36 : decode cX7_refusedBytes 36 = .ok (.ifCond .eq 7, 3) := by decide +kernel
theorem dX7_refusedBytes_39 : decode cX7_refusedBytes 39 = .ok (.iconst 0, 1) := by decide +kernel
theorem dX7_refusedBytes_40 : decode cX7_refusedBytes 40 = .ok (.goto 5, 3) := by decide +kernel
theorem dX7_refusedBytes_43 : decode cX7_refusedBytes 43 = .ok (.bipush (-12), 2) := by decide +kernel
theorem dX7_refusedBytes_45 : decode cX7_refusedBytes 45 = .ok (.ireturn, 1) := by decide +kernel
theorem dX7_handed_0 : decode cX7_handed 0 = .ok (.iload_n 1, 1) := by decide +kernel
theorem dX7_handed_1 : decode cX7_handed 1 = .ok (.iconst 1, 1) := by decide +kernel
theorem dX7_handed_2 : decode cX7_handed 2 = .ok (.if_icmp .lt 24, 3) := by decide +kernel
theorem dX7_handed_5 : decode cX7_handed 5 = .ok (.iload_n 1, 1) := by decide +kernel
theorem dX7_handed_6 : decode cX7_handed 6 = .ok (.iconst 4, 1) := by decide +kernel
theorem dX7_handed_7 : decode cX7_handed 7 = .ok (.if_icmp .ge 19, 3) := by decide +kernel
theorem dX7_handed_10 : decode cX7_handed 10 = .ok (.iload_n 2, 1) := by decide +kernel
theorem dX7_handed_11 : decode cX7_handed 11 = .ok (.iconst 2, 1) := by decide +kernel
theorem dX7_handed_12 : decode cX7_handed 12 = .ok (.invokestatic 72, 3) := by decide +kernel
theorem dX7_handed_15 : decode cX7_handed 15 = .ok (.ifCond .eq 11, 3) := by decide +kernel
theorem dX7_handed_18 : decode cX7_handed 18 = .ok (.iload_n 3, 1) := by decide +kernel
theorem dX7_handed_19 : decode cX7_handed 19 = .ok (.iconst 2, 1) := by decide +kernel
theorem dX7_handed_20 : decode cX7_handed 20 = .ok (.invokestatic 72, 3) := by decide +kernel
theorem dX7_handed_23 : decode cX7_handed 23 = .ok (.ifCond .ne 7, 3) := by decide +kernel
theorem dX7_handed_26 : decode cX7_handed 26 = .ok (.ldc2_w 138, 3) := by decide +kernel
theorem dX7_handed_29 : decode cX7_handed 29 = .ok (.lreturn, 1) := by decide +kernel
theorem dX7_handed_30 : decode cX7_handed 30 = .ok (.aload_n 0, 1) := by decide +kernel
theorem dX7_handed_31 : decode cX7_handed 31 = .ok (.getfield 12, 3) := by decide +kernel
theorem dX7_handed_34 : decode cX7_handed 34 = .ok (.getfield 107, 3) := by decide +kernel
theorem dX7_handed_37 : decode cX7_handed 37 = .ok (.iconst 3, 1) := by decide +kernel
theorem dX7_handed_38 : decode cX7_handed 38 = .ok (.aaload, 1) := by decide +kernel
theorem dX7_handed_39 : decode cX7_handed 39 = .ok (.iconst 0, 1) := by decide +kernel
theorem dX7_handed_40 : decode cX7_handed 40 = .ok (.iaload, 1) := by decide +kernel
theorem dX7_handed_41 : decode cX7_handed 41 = .ok (.istore 4, 2) := by decide +kernel
theorem dX7_handed_43 : decode cX7_handed 43 = .ok (.aload_n 0, 1) := by decide +kernel
theorem dX7_handed_44 : decode cX7_handed 44 = .ok (.getfield 12, 3) := by decide +kernel
theorem dX7_handed_47 : decode cX7_handed 47 = .ok (.getfield 107, 3) := by decide +kernel
theorem dX7_handed_50 : decode cX7_handed 50 = .ok (.iconst 4, 1) := by decide +kernel
theorem dX7_handed_51 : decode cX7_handed 51 = .ok (.aaload, 1) := by decide +kernel
theorem dX7_handed_52 : decode cX7_handed 52 = .ok (.iconst 0, 1) := by decide +kernel
theorem dX7_handed_53 : decode cX7_handed 53 = .ok (.iaload, 1) := by decide +kernel
theorem dX7_handed_54 : decode cX7_handed 54 = .ok (.istore 5, 2) := by decide +kernel
theorem dX7_handed_56 : decode cX7_handed 56 = .ok (.aload_n 0, 1) := by decide +kernel
theorem dX7_handed_57 : decode cX7_handed 57 = .ok (.getfield 35, 3) := by decide +kernel
theorem dX7_handed_60 : decode cX7_handed 60 = .ok (.aload_n 0, 1) := by decide +kernel
theorem dX7_handed_61 : decode cX7_handed 61 = .ok (.getfield 12, 3) := by decide +kernel
theorem dX7_handed_64 : decode cX7_handed 64 = .ok (.iload_n 1, 1) := by decide +kernel
theorem dX7_handed_65 : decode cX7_handed 65 = .ok (.iload 4, 2) := by decide +kernel
theorem dX7_handed_67 : decode cX7_handed 67 = .ok (.iload 5, 2) := by decide +kernel
theorem dX7_handed_69 : decode cX7_handed 69 = .ok (.invokevirtual 174, 3) := by decide +kernel
theorem dX7_handed_72 : decode cX7_handed 72 = .ok (.lstore 6, 2) := by decide +kernel
theorem dX7_handed_74 : decode cX7_handed 74 = .ok (.iload_n 2, 1) := by decide +kernel
theorem dX7_handed_75 : decode cX7_handed 75 = .ok (.ifCond .ne 22, 3) := by decide +kernel
theorem dX7_handed_78 : decode cX7_handed 78 = .ok (.lload 6, 2) := by decide +kernel
theorem dX7_handed_80 : decode cX7_handed 80 = .ok (.aload_n 0, 1) := by decide +kernel
theorem dX7_handed_81 : decode cX7_handed 81 = .ok (.getfield 35, 3) := by decide +kernel
theorem dX7_handed_84 : decode cX7_handed 84 = .ok (.aload_n 0, 1) := by decide +kernel
theorem dX7_handed_85 : decode cX7_handed 85 = .ok (.getfield 12, 3) := by decide +kernel
theorem dX7_handed_88 : decode cX7_handed 88 = .ok (.iload_n 1, 1) := by decide +kernel
theorem dX7_handed_89 : decode cX7_handed 89 = .ok (.invokevirtual 177, 3) := by decide +kernel
theorem dX7_handed_92 : decode cX7_handed 92 = .ok (.iload_n 3, 1) := by decide +kernel
theorem dX7_handed_93 : decode cX7_handed 93 = .ok (.invokestatic 150, 3) := by decide +kernel
theorem dX7_handed_96 : decode cX7_handed 96 = .ok (.lreturn, 1) := by decide +kernel
theorem dX7_handed_97 : decode cX7_handed 97 = .ok (.aload_n 0, 1) := by decide +kernel
theorem dX7_handed_98 : decode cX7_handed 98 = .ok (.getfield 35, 3) := by decide +kernel
theorem dX7_handed_101 : decode cX7_handed 101 = .ok (.aload_n 0, 1) := by decide +kernel
theorem dX7_handed_102 : decode cX7_handed 102 = .ok (.getfield 12, 3) := by decide +kernel
theorem dX7_handed_105 : decode cX7_handed 105 = .ok (.iload_n 1, 1) := by decide +kernel
theorem dX7_handed_106 : decode cX7_handed 106 = .ok (.iload 4, 2) := by decide +kernel
theorem dX7_handed_108 : decode cX7_handed 108 = .ok (.iconst 0, 1) := by decide +kernel
theorem dX7_handed_109 : decode cX7_handed 109 = .ok (.invokevirtual 174, 3) := by decide +kernel
theorem dX7_handed_112 : decode cX7_handed 112 = .ok (.lload 6, 2) := by decide +kernel
theorem dX7_handed_114 : decode cX7_handed 114 = .ok (.iload_n 3, 1) := by decide +kernel
theorem dX7_handed_115 : decode cX7_handed 115 = .ok (.invokestatic 150, 3) := by decide +kernel
theorem dX7_handed_118 : decode cX7_handed 118 = .ok (.lreturn, 1) := by decide +kernel
theorem dX7_ill_0 : decode cX7_ill 0 = .ok (.iload_n 1, 1) := by decide +kernel
theorem dX7_ill_1 : decode cX7_ill 1 = .ok (.bipush 16, 2) := by decide +kernel
theorem dX7_ill_3 : decode cX7_ill 3 = .ok (.invokestatic 181, 3) := by decide +kernel
theorem dX7_ill_6 : decode cX7_ill 6 = .ok (.ifCond .eq 11, 3) := by decide +kernel
theorem dX7_ill_9 : decode cX7_ill 9 = .ok (.iload_n 2, 1) := by decide +kernel
theorem dX7_ill_10 : decode cX7_ill 10 = .ok (.iconst 2, 1) := by decide +kernel
theorem dX7_ill_11 : decode cX7_ill 11 = .ok (.invokestatic 72, 3) := by decide +kernel
theorem dX7_ill_14 : decode cX7_ill 14 = .ok (.ifCond .ne 7, 3) := by decide +kernel
theorem dX7_ill_17 : decode cX7_ill 17 = .ok (.ldc2_w 138, 3) := by decide +kernel
theorem dX7_ill_20 : decode cX7_ill 20 = .ok (.lreturn, 1) := by decide +kernel
theorem dX7_ill_21 : decode cX7_ill 21 = .ok (.iload_n 1, 1) := by decide +kernel
theorem dX7_ill_22 : decode cX7_ill 22 = .ok (.bipush 16, 2) := by decide +kernel
theorem dX7_ill_24 : decode cX7_ill 24 = .ok (.irem, 1) := by decide +kernel
theorem dX7_ill_25 : decode cX7_ill 25 = .ok (.istore_n 3, 1) := by decide +kernel
theorem dX7_ill_26 : decode cX7_ill 26 = .ok (.iload_n 1, 1) := by decide +kernel
theorem dX7_ill_27 : decode cX7_ill 27 = .ok (.bipush 16, 2) := by decide +kernel
theorem dX7_ill_29 : decode cX7_ill 29 = .ok (.idiv, 1) := by decide +kernel
theorem dX7_ill_30 : decode cX7_ill 30 = .ok (.istore 4, 2) := by decide +kernel
theorem dX7_ill_32 : decode cX7_ill 32 = .ok (.aload_n 0, 1) := by decide +kernel
theorem dX7_ill_33 : decode cX7_ill 33 = .ok (.getfield 35, 3) := by decide +kernel
theorem dX7_ill_36 : decode cX7_ill 36 = .ok (.aload_n 0, 1) := by decide +kernel
theorem dX7_ill_37 : decode cX7_ill 37 = .ok (.getfield 12, 3) := by decide +kernel
theorem dX7_ill_40 : decode cX7_ill 40 = .ok (.iload_n 3, 1) := by decide +kernel
theorem dX7_ill_41 : decode cX7_ill 41 = .ok (.iload 4, 2) := by decide +kernel
theorem dX7_ill_43 : decode cX7_ill 43 = .ok (.invokevirtual 184, 3) := by decide +kernel
theorem dX7_ill_46 : decode cX7_ill 46 = .ok (.lstore 5, 2) := by decide +kernel
theorem dX7_ill_48 : decode cX7_ill 48 = .ok (.lload 5, 2) := by decide +kernel
theorem dX7_ill_50 : decode cX7_ill 50 = .ok (.lload 5, 2) := by decide +kernel
theorem dX7_ill_52 : decode cX7_ill 52 = .ok (.aload_n 0, 1) := by decide +kernel
theorem dX7_ill_53 : decode cX7_ill 53 = .ok (.getfield 35, 3) := by decide +kernel
theorem dX7_ill_56 : decode cX7_ill 56 = .ok (.aload_n 0, 1) := by decide +kernel
theorem dX7_ill_57 : decode cX7_ill 57 = .ok (.getfield 12, 3) := by decide +kernel
theorem dX7_ill_60 : decode cX7_ill 60 = .ok (.iload_n 3, 1) := by decide +kernel
theorem dX7_ill_61 : decode cX7_ill 61 = .ok (.iload 4, 2) := by decide +kernel
theorem dX7_ill_63 : decode cX7_ill 63 = .ok (.invokevirtual 187, 3) := by decide +kernel
theorem dX7_ill_66 : decode cX7_ill 66 = .ok (.ladd, 1) := by decide +kernel
theorem dX7_ill_67 : decode cX7_ill 67 = .ok (.iload_n 2, 1) := by decide +kernel
theorem dX7_ill_68 : decode cX7_ill 68 = .ok (.invokestatic 150, 3) := by decide +kernel
theorem dX7_ill_71 : decode cX7_ill 71 = .ok (.lreturn, 1) := by decide +kernel
theorem dX7_order_0 : decode cX7_order 0 = .ok (.iload_n 1, 1) := by decide +kernel
theorem dX7_order_1 : decode cX7_order 1 = .ok (.iconst (-1), 1) := by decide +kernel
theorem dX7_order_2 : decode cX7_order 2 = .ok (.if_icmp .lt 16, 3) := by decide +kernel
theorem dX7_order_5 : decode cX7_order 5 = .ok (.iload_n 1, 1) := by decide +kernel
theorem dX7_order_6 : decode cX7_order 6 = .ok (.iconst 4, 1) := by decide +kernel
theorem dX7_order_7 : decode cX7_order 7 = .ok (.if_icmp .ge 11, 3) := by decide +kernel
theorem dX7_order_10 : decode cX7_order 10 = .ok (.iload_n 2, 1) := by decide +kernel
theorem dX7_order_11 : decode cX7_order 11 = .ok (.iconst 2, 1) := by decide +kernel
theorem dX7_order_12 : decode cX7_order 12 = .ok (.invokestatic 72, 3) := by decide +kernel
theorem dX7_order_15 : decode cX7_order 15 = .ok (.ifCond .ne 7, 3) := by decide +kernel
theorem dX7_order_18 : decode cX7_order 18 = .ok (.ldc2_w 138, 3) := by decide +kernel
theorem dX7_order_21 : decode cX7_order 21 = .ok (.lreturn, 1) := by decide +kernel
theorem dX7_order_22 : decode cX7_order 22 = .ok (.aload_n 0, 1) := by decide +kernel
theorem dX7_order_23 : decode cX7_order 23 = .ok (.getfield 35, 3) := by decide +kernel
theorem dX7_order_26 : decode cX7_order 26 = .ok (.aload_n 0, 1) := by decide +kernel
theorem dX7_order_27 : decode cX7_order 27 = .ok (.getfield 12, 3) := by decide +kernel
theorem dX7_order_30 : decode cX7_order 30 = .ok (.invokevirtual 190, 3) := by decide +kernel
theorem dX7_order_33 : decode cX7_order 33 = .ok (.iload_n 1, 1) := by decide +kernel
theorem dX7_order_34 : decode cX7_order 34 = .ok (.ifCond .ge 31, 3) := by decide +kernel
theorem dX7_order_37 : decode cX7_order 37 = .ok (.aload_n 0, 1) := by decide +kernel
theorem dX7_order_38 : decode cX7_order 38 = .ok (.getfield 35, 3) := by decide +kernel
theorem dX7_order_41 : decode cX7_order 41 = .ok (.aload_n 0, 1) := by decide +kernel
theorem dX7_order_42 : decode cX7_order 42 = .ok (.getfield 12, 3) := by decide +kernel
theorem dX7_order_45 : decode cX7_order 45 = .ok (.aload_n 0, 1) := by decide +kernel
theorem dX7_order_46 : decode cX7_order 46 = .ok (.getfield 35, 3) := by decide +kernel
theorem dX7_order_49 : decode cX7_order 49 = .ok (.getfield 194, 3) := by decide +kernel
theorem dX7_order_52 : decode cX7_order 52 = .ok (.invokevirtual 197, 3) := by decide +kernel
theorem dX7_order_55 : decode cX7_order 55 = .ok (.ldc2_w 201, 3) := by decide +kernel
theorem dX7_order_58 : decode cX7_order 58 = .ok (.iload_n 2, 1) := by decide +kernel
theorem dX7_order_59 : decode cX7_order 59 = .ok (.invokestatic 150, 3) := by decide +kernel
theorem dX7_order_62 : decode cX7_order 62 = .ok (.goto 13, 3) := by decide +kernel
theorem dX7_order_65 : decode cX7_order 65 = .ok (.aload_n 0, 1) := by decide +kernel
theorem dX7_order_66 : decode cX7_order 66 = .ok (.getfield 35, 3) := by decide +kernel
theorem dX7_order_69 : decode cX7_order 69 = .ok (.getfield 194, 3) := by decide +kernel
theorem dX7_order_72 : decode cX7_order 72 = .ok (.iload_n 1, 1) := by decide +kernel
theorem dX7_order_73 : decode cX7_order 73 = .ok (.iaload, 1) := by decide +kernel
theorem dX7_order_74 : decode cX7_order 74 = .ok (.i2l, 1) := by decide +kernel
theorem dX7_order_75 : decode cX7_order 75 = .ok (.lreturn, 1) := by decide +kernel
theorem dX7_isSo_0 : decode cX7_isSo 0 = .ok (.iload_n 1, 1) := by decide +kernel
theorem dX7_isSo_1 : decode cX7_isSo 1 = .ok (.bipush 64, 2) := by decide +kernel
theorem dX7_isSo_3 : decode cX7_isSo 3 = .ok (.invokestatic 181, 3) := by decide +kernel
theorem dX7_isSo_6 : decode cX7_isSo 6 = .ok (.ifCond .eq 11, 3) := by decide +kernel
theorem dX7_isSo_9 : decode cX7_isSo 9 = .ok (.iload_n 2, 1) := by decide +kernel
theorem dX7_isSo_10 : decode cX7_isSo 10 = .ok (.iconst 2, 1) := by decide +kernel
theorem dX7_isSo_11 : decode cX7_isSo 11 = .ok (.invokestatic 72, 3) := by decide +kernel
theorem dX7_isSo_14 : decode cX7_isSo 14 = .ok (.ifCond .ne 7, 3) := by decide +kernel
theorem dX7_isSo_17 : decode cX7_isSo 17 = .ok (.ldc2_w 138, 3) := by decide +kernel
theorem dX7_isSo_20 : decode cX7_isSo 20 = .ok (.lreturn, 1) := by decide +kernel
theorem dX7_isSo_21 : decode cX7_isSo 21 = .ok (.iload_n 1, 1) := by decide +kernel
theorem dX7_isSo_22 : decode cX7_isSo 22 = .ok (.bipush 64, 2) := by decide +kernel
theorem dX7_isSo_24 : decode cX7_isSo 24 = .ok (.irem, 1) := by decide +kernel
theorem dX7_isSo_25 : decode cX7_isSo 25 = .ok (.istore_n 3, 1) := by decide +kernel
theorem dX7_isSo_26 : decode cX7_isSo 26 = .ok (.iload_n 1, 1) := by decide +kernel
theorem dX7_isSo_27 : decode cX7_isSo 27 = .ok (.bipush 64, 2) := by decide +kernel
theorem dX7_isSo_29 : decode cX7_isSo 29 = .ok (.idiv, 1) := by decide +kernel
theorem dX7_isSo_30 : decode cX7_isSo 30 = .ok (.istore 4, 2) := by decide +kernel
theorem dX7_isSo_32 : decode cX7_isSo 32 = .ok (.aload_n 0, 1) := by decide +kernel
theorem dX7_isSo_33 : decode cX7_isSo 33 = .ok (.getfield 12, 3) := by decide +kernel
theorem dX7_isSo_36 : decode cX7_isSo 36 = .ok (.getfield 107, 3) := by decide +kernel
theorem dX7_isSo_39 : decode cX7_isSo 39 = .ok (.bipush 10, 2) := by decide +kernel
theorem dX7_isSo_41 : decode cX7_isSo 41 = .ok (.aaload, 1) := by decide +kernel
theorem dX7_isSo_42 : decode cX7_isSo 42 = .ok (.iconst 0, 1) := by decide +kernel
theorem dX7_isSo_43 : decode cX7_isSo 43 = .ok (.iaload, 1) := by decide +kernel
theorem dX7_isSo_44 : decode cX7_isSo 44 = .ok (.i2l, 1) := by decide +kernel
theorem dX7_isSo_45 : decode cX7_isSo 45 = .ok (.aload_n 0, 1) := by decide +kernel
theorem dX7_isSo_46 : decode cX7_isSo 46 = .ok (.getfield 35, 3) := by decide +kernel
theorem dX7_isSo_49 : decode cX7_isSo 49 = .ok (.aload_n 0, 1) := by decide +kernel
theorem dX7_isSo_50 : decode cX7_isSo 50 = .ok (.getfield 12, 3) := by decide +kernel
theorem dX7_isSo_53 : decode cX7_isSo 53 = .ok (.iload_n 3, 1) := by decide +kernel
theorem dX7_isSo_54 : decode cX7_isSo 54 = .ok (.iload 4, 2) := by decide +kernel
theorem dX7_isSo_56 : decode cX7_isSo 56 = .ok (.invokevirtual 203, 3) := by decide +kernel
theorem dX7_isSo_59 : decode cX7_isSo 59 = .ok (.lmul, 1) := by decide +kernel
theorem dX7_isSo_60 : decode cX7_isSo 60 = .ok (.lstore 5, 2) := by decide +kernel
theorem dX7_isSo_62 : decode cX7_isSo 62 = .ok (.bipush 12, 2) := by decide +kernel
theorem dX7_isSo_64 : decode cX7_isSo 64 = .ok (.aload_n 0, 1) := by decide +kernel
theorem dX7_isSo_65 : decode cX7_isSo 65 = .ok (.getfield 12, 3) := by decide +kernel
theorem dX7_isSo_68 : decode cX7_isSo 68 = .ok (.getfield 107, 3) := by decide +kernel
theorem dX7_isSo_71 : decode cX7_isSo 71 = .ok (.bipush 10, 2) := by decide +kernel
theorem dX7_isSo_73 : decode cX7_isSo 73 = .ok (.aaload, 1) := by decide +kernel
theorem dX7_isSo_74 : decode cX7_isSo 74 = .ok (.iconst 0, 1) := by decide +kernel
theorem dX7_isSo_75 : decode cX7_isSo 75 = .ok (.iaload, 1) := by decide +kernel
theorem dX7_isSo_76 : decode cX7_isSo 76 = .ok (.isub, 1) := by decide +kernel
theorem dX7_isSo_77 : decode cX7_isSo 77 = .ok (.i2l, 1) := by decide +kernel
theorem dX7_isSo_78 : decode cX7_isSo 78 = .ok (.aload_n 0, 1) := by decide +kernel
theorem dX7_isSo_79 : decode cX7_isSo 79 = .ok (.getfield 35, 3) := by decide +kernel
theorem dX7_isSo_82 : decode cX7_isSo 82 = .ok (.aload_n 0, 1) := by decide +kernel
theorem dX7_isSo_83 : decode cX7_isSo 83 = .ok (.getfield 12, 3) := by decide +kernel
theorem dX7_isSo_86 : decode cX7_isSo 86 = .ok (.iload_n 3, 1) := by decide +kernel
theorem dX7_isSo_87 : decode cX7_isSo 87 = .ok (.iload_n 3, 1) := by decide +kernel
theorem dX7_isSo_88 : decode cX7_isSo 88 = .ok (.iload 4, 2) := by decide +kernel
theorem dX7_isSo_90 : decode cX7_isSo 90 = .ok (.iconst (-1), 1) := by decide +kernel
theorem dX7_isSo_91 : decode cX7_isSo 91 = .ok (.ixor, 1) := by decide +kernel
theorem dX7_isSo_92 : decode cX7_isSo 92 = .ok (.iand, 1) := by decide +kernel
theorem dX7_isSo_93 : decode cX7_isSo 93 = .ok (.invokevirtual 203, 3) := by decide +kernel
theorem dX7_isSo_96 : decode cX7_isSo 96 = .ok (.lmul, 1) := by decide +kernel
theorem dX7_isSo_97 : decode cX7_isSo 97 = .ok (.lstore 7, 2) := by decide +kernel
theorem dX7_isSo_99 : decode cX7_isSo 99 = .ok (.lload 5, 2) := by decide +kernel
theorem dX7_isSo_101 : decode cX7_isSo 101 = .ok (.lload 5, 2) := by decide +kernel
theorem dX7_isSo_103 : decode cX7_isSo 103 = .ok (.lload 7, 2) := by decide +kernel
theorem dX7_isSo_105 : decode cX7_isSo 105 = .ok (.ladd, 1) := by decide +kernel
theorem dX7_isSo_106 : decode cX7_isSo 106 = .ok (.iload_n 2, 1) := by decide +kernel
theorem dX7_isSo_107 : decode cX7_isSo 107 = .ok (.invokestatic 150, 3) := by decide +kernel
theorem dX7_isSo_110 : decode cX7_isSo 110 = .ok (.lreturn, 1) := by decide +kernel
theorem dX7_mayBeTold_0 : decode cX7_mayBeTold 0 = .ok (.iload_n 0, 1) := by decide +kernel
theorem dX7_mayBeTold_1 : decode cX7_mayBeTold 1 = .ok (.ifCond .lt 26, 3) := by decide +kernel
theorem dX7_mayBeTold_4 : decode cX7_mayBeTold 4 = .ok (.iload_n 0, 1) := by decide +kernel
theorem dX7_mayBeTold_5 : decode cX7_mayBeTold 5 = .ok (.iload_n 1, 1) := by decide +kernel
theorem dX7_mayBeTold_6 : decode cX7_mayBeTold 6 = .ok (.idiv, 1) := by decide +kernel
theorem dX7_mayBeTold_7 : decode cX7_mayBeTold 7 = .ok (.iload_n 1, 1) := by decide +kernel
theorem dX7_mayBeTold_8 : decode cX7_mayBeTold 8 = .ok (.if_icmp .ge 19, 3) := by decide +kernel
theorem dX7_mayBeTold_11 : decode cX7_mayBeTold 11 = .ok (.iload_n 0, 1) := by decide +kernel
theorem dX7_mayBeTold_12 : decode cX7_mayBeTold 12 = .ok (.iload_n 1, 1) := by decide +kernel
theorem dX7_mayBeTold_13 : decode cX7_mayBeTold 13 = .ok (.idiv, 1) := by decide +kernel
theorem dX7_mayBeTold_14 : decode cX7_mayBeTold 14 = .ok (.iload_n 0, 1) := by decide +kernel
theorem dX7_mayBeTold_15 : decode cX7_mayBeTold 15 = .ok (.iload_n 1, 1) := by decide +kernel
theorem dX7_mayBeTold_16 : decode cX7_mayBeTold 16 = .ok (.irem, 1) := by decide +kernel
theorem dX7_mayBeTold_17 : decode cX7_mayBeTold 17 = .ok (.iconst (-1), 1) := by decide +kernel
theorem dX7_mayBeTold_18 : decode cX7_mayBeTold 18 = .ok (.ixor, 1) := by decide +kernel
theorem dX7_mayBeTold_19 : decode cX7_mayBeTold 19 = .ok (.iand, 1) := by decide +kernel
theorem dX7_mayBeTold_20 : decode cX7_mayBeTold 20 = .ok (.ifCond .ne 7, 3) := by decide +kernel
theorem dX7_mayBeTold_23 : decode cX7_mayBeTold 23 = .ok (.iconst 1, 1) := by decide +kernel
theorem dX7_mayBeTold_24 : decode cX7_mayBeTold 24 = .ok (.goto 4, 3) := by decide +kernel
theorem dX7_mayBeTold_27 : decode cX7_mayBeTold 27 = .ok (.iconst 0, 1) := by decide +kernel
theorem dX7_mayBeTold_28 : decode cX7_mayBeTold 28 = .ok (.ireturn, 1) := by decide +kernel
theorem dX7_tooMany_0 : decode cX7_tooMany 0 = .ok (.iload_n 1, 1) := by decide +kernel
theorem dX7_tooMany_1 : decode cX7_tooMany 1 = .ok (.bipush 64, 2) := by decide +kernel
theorem dX7_tooMany_3 : decode cX7_tooMany 3 = .ok (.invokestatic 72, 3) := by decide +kernel
theorem dX7_tooMany_6 : decode cX7_tooMany 6 = .ok (.ifCond .eq 11, 3) := by decide +kernel
theorem dX7_tooMany_9 : decode cX7_tooMany 9 = .ok (.iload_n 2, 1) := by decide +kernel
theorem dX7_tooMany_10 : decode cX7_tooMany 10 = .ok (.iconst 2, 1) := by decide +kernel
theorem dX7_tooMany_11 : decode cX7_tooMany 11 = .ok (.invokestatic 72, 3) := by decide +kernel
theorem dX7_tooMany_14 : decode cX7_tooMany 14 = .ok (.ifCond .ne 7, 3) := by decide +kernel
theorem dX7_tooMany_17 : decode cX7_tooMany 17 = .ok (.ldc2_w 138, 3) := by decide +kernel
theorem dX7_tooMany_20 : decode cX7_tooMany 20 = .ok (.lreturn, 1) := by decide +kernel
theorem dX7_tooMany_21 : decode cX7_tooMany 21 = .ok (.iload_n 1, 1) := by decide +kernel
theorem dX7_tooMany_22 : decode cX7_tooMany 22 = .ok (.ifCond .ne 5, 3) := by decide +kernel
theorem dX7_tooMany_25 : decode cX7_tooMany 25 = .ok (.lconst 1, 1) := by decide +kernel
theorem dX7_tooMany_26 : decode cX7_tooMany 26 = .ok (.lreturn, 1) := by decide +kernel
theorem dX7_tooMany_27 : decode cX7_tooMany 27 = .ok (.aload_n 0, 1) := by decide +kernel
theorem dX7_tooMany_28 : decode cX7_tooMany 28 = .ok (.getfield 35, 3) := by decide +kernel
theorem dX7_tooMany_31 : decode cX7_tooMany 31 = .ok (.aload_n 0, 1) := by decide +kernel
theorem dX7_tooMany_32 : decode cX7_tooMany 32 = .ok (.getfield 12, 3) := by decide +kernel
theorem dX7_tooMany_35 : decode cX7_tooMany 35 = .ok (.iload_n 1, 1) := by decide +kernel
theorem dX7_tooMany_36 : decode cX7_tooMany 36 = .ok (.iload_n 1, 1) := by decide +kernel
theorem dX7_tooMany_37 : decode cX7_tooMany 37 = .ok (.invokevirtual 203, 3) := by decide +kernel
theorem dX7_tooMany_40 : decode cX7_tooMany 40 = .ok (.aload_n 0, 1) := by decide +kernel
theorem dX7_tooMany_41 : decode cX7_tooMany 41 = .ok (.getfield 35, 3) := by decide +kernel
theorem dX7_tooMany_44 : decode cX7_tooMany 44 = .ok (.aload_n 0, 1) := by decide +kernel
theorem dX7_tooMany_45 : decode cX7_tooMany 45 = .ok (.getfield 12, 3) := by decide +kernel
theorem dX7_tooMany_48 : decode cX7_tooMany 48 = .ok (.iload_n 1, 1) := by decide +kernel
theorem dX7_tooMany_49 : decode cX7_tooMany 49 = .ok (.iconst 0, 1) := by decide +kernel
theorem dX7_tooMany_50 : decode cX7_tooMany 50 = .ok (.invokevirtual 203, 3) := by decide +kernel
theorem dX7_tooMany_53 : decode cX7_tooMany 53 = .ok (.ladd, 1) := by decide +kernel
theorem dX7_tooMany_54 : decode cX7_tooMany 54 = .ok (.lstore_n 3, 1) := by decide +kernel
theorem dX7_tooMany_55 : decode cX7_tooMany 55 = .ok (.lload_n 3, 1) := by decide +kernel
theorem dX7_tooMany_56 : decode cX7_tooMany 56 = .ok (.aload_n 0, 1) := by decide +kernel
theorem dX7_tooMany_57 : decode cX7_tooMany 57 = .ok (.getfield 35, 3) := by decide +kernel
theorem dX7_tooMany_60 : decode cX7_tooMany 60 = .ok (.iload_n 1, 1) := by decide +kernel
theorem dX7_tooMany_61 : decode cX7_tooMany 61 = .ok (.invokevirtual 206, 3) := by decide +kernel
theorem dX7_tooMany_64 : decode cX7_tooMany 64 = .ok (.iload_n 2, 1) := by decide +kernel
theorem dX7_tooMany_65 : decode cX7_tooMany 65 = .ok (.invokestatic 150, 3) := by decide +kernel
theorem dX7_tooMany_68 : decode cX7_tooMany 68 = .ok (.lreturn, 1) := by decide +kernel
theorem dX7_next_0 : decode cX7_next 0 = .ok (.iload_n 1, 1) := by decide +kernel
theorem dX7_next_1 : decode cX7_next 1 = .ok (.sipush 10000, 3) := by decide +kernel
theorem dX7_next_4 : decode cX7_next 4 = .ok (.invokestatic 72, 3) := by decide +kernel
theorem dX7_next_7 : decode cX7_next 7 = .ok (.ifCond .eq 22, 3) := by decide +kernel
theorem dX7_next_10 : decode cX7_next 10 = .ok (.iload_n 1, 1) := by decide +kernel
theorem dX7_next_11 : decode cX7_next 11 = .ok (.bipush 100, 2) := by decide +kernel
theorem dX7_next_13 : decode cX7_next 13 = .ok (.idiv, 1) := by decide +kernel
theorem dX7_next_14 : decode cX7_next 14 = .ok (.iload_n 1, 1) := by decide +kernel
theorem dX7_next_15 : decode cX7_next 15 = .ok (.bipush 100, 2) := by decide +kernel
theorem dX7_next_17 : decode cX7_next 17 = .ok (.irem, 1) := by decide +kernel
theorem dX7_next_18 : decode cX7_next 18 = .ok (.if_icmp .gt 11, 3) := by decide +kernel
theorem dX7_next_21 : decode cX7_next 21 = .ok (.iload_n 2, 1) := by decide +kernel
theorem dX7_next_22 : decode cX7_next 22 = .ok (.iconst 2, 1) := by decide +kernel
theorem dX7_next_23 : decode cX7_next 23 = .ok (.invokestatic 72, 3) := by decide +kernel
theorem dX7_next_26 : decode cX7_next 26 = .ok (.ifCond .ne 7, 3) := by decide +kernel
theorem dX7_next_29 : decode cX7_next 29 = .ok (.ldc2_w 138, 3) := by decide +kernel
theorem dX7_next_32 : decode cX7_next 32 = .ok (.lreturn, 1) := by decide +kernel
theorem dX7_next_33 : decode cX7_next 33 = .ok (.iload_n 1, 1) := by decide +kernel
theorem dX7_next_34 : decode cX7_next 34 = .ok (.bipush 100, 2) := by decide +kernel
theorem dX7_next_36 : decode cX7_next 36 = .ok (.idiv, 1) := by decide +kernel
theorem dX7_next_37 : decode cX7_next 37 = .ok (.iconst 1, 1) := by decide +kernel
theorem dX7_next_38 : decode cX7_next 38 = .ok (.iadd, 1) := by decide +kernel
theorem dX7_next_39 : decode cX7_next 39 = .ok (.i2l, 1) := by decide +kernel
theorem dX7_next_40 : decode cX7_next 40 = .ok (.iload_n 1, 1) := by decide +kernel
theorem dX7_next_41 : decode cX7_next 41 = .ok (.bipush 100, 2) := by decide +kernel
theorem dX7_next_43 : decode cX7_next 43 = .ok (.irem, 1) := by decide +kernel
theorem dX7_next_44 : decode cX7_next 44 = .ok (.iconst 2, 1) := by decide +kernel
theorem dX7_next_45 : decode cX7_next 45 = .ok (.iadd, 1) := by decide +kernel
theorem dX7_next_46 : decode cX7_next 46 = .ok (.i2l, 1) := by decide +kernel
theorem dX7_next_47 : decode cX7_next 47 = .ok (.iload_n 2, 1) := by decide +kernel
theorem dX7_next_48 : decode cX7_next 48 = .ok (.invokestatic 150, 3) := by decide +kernel
theorem dX7_next_51 : decode cX7_next 51 = .ok (.lreturn, 1) := by decide +kernel
theorem dX7_sure_0 : decode cX7_sure 0 = .ok (.iload_n 1, 1) := by decide +kernel
theorem dX7_sure_1 : decode cX7_sure 1 = .ok (.iconst (-1), 1) := by decide +kernel
theorem dX7_sure_2 : decode cX7_sure 2 = .ok (.if_icmp .lt 8, 3) := by decide +kernel
theorem dX7_sure_5 : decode cX7_sure 5 = .ok (.iload_n 1, 1) := by decide +kernel
theorem dX7_sure_6 : decode cX7_sure 6 = .ok (.iconst 3, 1) := by decide +kernel
theorem dX7_sure_7 : decode cX7_sure 7 = .ok (.if_icmp .lt 6, 3) := by decide +kernel
theorem dX7_sure_10 : decode cX7_sure 10 = .ok (.ldc 210, 2) := by decide +kernel
theorem dX7_sure_12 : decode cX7_sure 12 = .ok (.ireturn, 1) := by decide +kernel
theorem dX7_sure_13 : decode cX7_sure 13 = .ok (.aload_n 0, 1) := by decide +kernel
theorem dX7_sure_14 : decode cX7_sure 14 = .ok (.getfield 35, 3) := by decide +kernel
theorem dX7_sure_17 : decode cX7_sure 17 = .ok (.aload_n 0, 1) := by decide +kernel
theorem dX7_sure_18 : decode cX7_sure 18 = .ok (.getfield 12, 3) := by decide +kernel
theorem dX7_sure_21 : decode cX7_sure 21 = .ok (.invokevirtual 211, 3) := by decide +kernel
theorem dX7_sure_24 : decode cX7_sure 24 = .ok (.istore_n 2, 1) := by decide +kernel
theorem dX7_sure_25 : decode cX7_sure 25 = .ok (.iload_n 1, 1) := by decide +kernel
theorem dX7_sure_26 : decode cX7_sure 26 = .ok (.ifCond .lt 13, 3) := by decide +kernel
theorem dX7_sure_29 : decode cX7_sure 29 = .ok (.aload_n 0, 1) := by decide +kernel
theorem dX7_sure_30 : decode cX7_sure 30 = .ok (.getfield 35, 3) := by decide +kernel
theorem dX7_sure_33 : decode cX7_sure 33 = .ok (.getfield 215, 3) := by decide +kernel
theorem dX7_sure_36 : decode cX7_sure 36 = .ok (.iload_n 1, 1) := by decide +kernel
theorem dX7_sure_37 : decode cX7_sure 37 = .ok (.iaload, 1) := by decide +kernel
theorem dX7_sure_38 : decode cX7_sure 38 = .ok (.ireturn, 1) := by decide +kernel
theorem dX7_sure_39 : decode cX7_sure 39 = .ok (.iload_n 2, 1) := by decide +kernel
theorem dX7_sure_40 : decode cX7_sure 40 = .ok (.ifCond .le 7, 3) := by decide +kernel
theorem dX7_sure_43 : decode cX7_sure 43 = .ok (.iload_n 2, 1) := by decide +kernel
theorem dX7_sure_44 : decode cX7_sure 44 = .ok (.goto 5, 3) := by decide +kernel
theorem dX7_sure_47 : decode cX7_sure 47 = .ok (.bipush (-2), 2) := by decide +kernel
theorem dX7_sure_49 : decode cX7_sure 49 = .ok (.ireturn, 1) := by decide +kernel
theorem dX7_drawn_0 : decode cX7_drawn 0 = .ok (.iload_n 3, 1) := by decide +kernel
theorem dX7_drawn_1 : decode cX7_drawn 1 = .ok (.bipush 10, 2) := by decide +kernel
theorem dX7_drawn_3 : decode cX7_drawn 3 = .ok (.idiv, 1) := by decide +kernel
theorem dX7_drawn_4 : decode cX7_drawn 4 = .ok (.bipush 10, 2) := by decide +kernel
theorem dX7_drawn_6 : decode cX7_drawn 6 = .ok (.irem, 1) := by decide +kernel
theorem dX7_drawn_7 : decode cX7_drawn 7 = .ok (.istore 4, 2) := by decide +kernel
theorem dX7_drawn_9 : decode cX7_drawn 9 = .ok (.iload_n 2, 1) := by decide +kernel
theorem dX7_drawn_10 : decode cX7_drawn 10 = .ok (.iconst 1, 1) := by decide +kernel
theorem dX7_drawn_11 : decode cX7_drawn 11 = .ok (.if_icmp .lt 46, 3) := by decide +kernel
theorem dX7_drawn_14 : decode cX7_drawn 14 = .ok (.iload_n 2, 1) := by decide +kernel
theorem dX7_drawn_15 : decode cX7_drawn 15 = .ok (.bipush 60, 2) := by decide +kernel
theorem dX7_drawn_17 : decode cX7_drawn 17 = .ok (.if_icmp .gt 40, 3) := by decide +kernel
theorem dX7_drawn_20 : decode cX7_drawn 20 = .ok (.iload_n 3, 1) := by decide +kernel
theorem dX7_drawn_21 : decode cX7_drawn 21 = .ok (.ifCond .lt 36, 3) := by decide +kernel
theorem dX7_drawn_24 : decode cX7_drawn 24 = .ok (.iload_n 3, 1) := by decide +kernel
theorem dX7_drawn_25 : decode cX7_drawn 25 = .ok (.bipush 100, 2) := by decide +kernel
theorem dX7_drawn_27 : decode cX7_drawn 27 = .ok (.idiv, 1) := by decide +kernel
theorem dX7_drawn_28 : decode cX7_drawn 28 = .ok (.bipush 6, 2) := by decide +kernel
theorem dX7_drawn_30 : decode cX7_drawn 30 = .ok (.invokestatic 72, 3) := by decide +kernel
theorem dX7_drawn_33 : decode cX7_drawn 33 = .ok (.ifCond .eq 24, 3) := by decide +kernel
theorem dX7_drawn_36 : decode cX7_drawn 36 = .ok (.iload 4, 2) := by decide +kernel
theorem dX7_drawn_38 : decode cX7_drawn 38 = .ok (.bipush 6, 2) := by decide +kernel
theorem dX7_drawn_40 : decode cX7_drawn 40 = .ok (.invokestatic 72, 3) := by decide +kernel
theorem dX7_drawn_43 : decode cX7_drawn 43 = .ok (.ifCond .eq 14, 3) := by decide +kernel
theorem dX7_drawn_46 : decode cX7_drawn 46 = .ok (.iload_n 3, 1) := by decide +kernel
theorem dX7_drawn_47 : decode cX7_drawn 47 = .ok (.bipush 10, 2) := by decide +kernel
theorem dX7_drawn_49 : decode cX7_drawn 49 = .ok (.irem, 1) := by decide +kernel
theorem dX7_drawn_50 : decode cX7_drawn 50 = .ok (.iconst 2, 1) := by decide +kernel
theorem dX7_drawn_51 : decode cX7_drawn 51 = .ok (.invokestatic 72, 3) := by decide +kernel
theorem dX7_drawn_54 : decode cX7_drawn 54 = .ok (.ifCond .ne 5, 3) := by decide +kernel
theorem dX7_drawn_57 : decode cX7_drawn 57 = .ok (.iconst (-1), 1) := by decide +kernel
theorem dX7_drawn_58 : decode cX7_drawn 58 = .ok (.ireturn, 1) := by decide +kernel
theorem dX7_drawn_59 : decode cX7_drawn 59 = .ok (.aload_n 0, 1) := by decide +kernel
theorem dX7_drawn_60 : decode cX7_drawn 60 = .ok (.getfield 12, 3) := by decide +kernel
theorem dX7_drawn_63 : decode cX7_drawn 63 = .ok (.invokevirtual 120, 3) := by decide +kernel
theorem dX7_drawn_66 : decode cX7_drawn 66 = .ok (.ifCond .ne 6, 3) := by decide +kernel
theorem dX7_drawn_69 : decode cX7_drawn 69 = .ok (.bipush (-5), 2) := by decide +kernel
theorem dX7_drawn_71 : decode cX7_drawn 71 = .ok (.ireturn, 1) := by decide +kernel
theorem dX7_drawn_72 : decode cX7_drawn 72 = .ok (.aload_n 0, 1) := by decide +kernel
theorem dX7_drawn_73 : decode cX7_drawn 73 = .ok (.getfield 28, 3) := by decide +kernel
theorem dX7_drawn_76 : decode cX7_drawn 76 = .ok (.aload_n 0, 1) := by decide +kernel
theorem dX7_drawn_77 : decode cX7_drawn 77 = .ok (.getfield 12, 3) := by decide +kernel
theorem dX7_drawn_80 : decode cX7_drawn 80 = .ok (.aload_n 0, 1) := by decide +kernel
theorem dX7_drawn_81 : decode cX7_drawn 81 = .ok (.getfield 21, 3) := by decide +kernel
theorem dX7_drawn_84 : decode cX7_drawn 84 = .ok (.invokevirtual 140, 3) := by decide +kernel
theorem dX7_drawn_87 : decode cX7_drawn 87 = .ok (.aload_n 0, 1) := by decide +kernel
theorem dX7_drawn_88 : decode cX7_drawn 88 = .ok (.getfield 42, 3) := by decide +kernel
theorem dX7_drawn_91 : decode cX7_drawn 91 = .ok (.iload_n 1, 1) := by decide +kernel
theorem dX7_drawn_92 : decode cX7_drawn 92 = .ok (.putfield 218, 3) := by decide +kernel
theorem dX7_drawn_95 : decode cX7_drawn 95 = .ok (.iconst 0, 1) := by decide +kernel
theorem dX7_drawn_96 : decode cX7_drawn 96 = .ok (.istore 5, 2) := by decide +kernel
theorem dX7_drawn_98 : decode cX7_drawn 98 = .ok (.iconst 0, 1) := by decide +kernel
theorem dX7_drawn_99 : decode cX7_drawn 99 = .ok (.istore 6, 2) := by decide +kernel
theorem dX7_drawn_101 : decode cX7_drawn 101 = .ok (.iload 6, 2) := by decide +kernel
theorem dX7_drawn_103 : decode cX7_drawn 103 = .ok (.iload_n 2, 1) := by decide +kernel
theorem dX7_drawn_104 : decode cX7_drawn 104 = .ok (.if_icmp .ge 87, 3) := by decide +kernel
theorem dX7_drawn_107 : decode cX7_drawn 107 = .ok (.aload_n 0, 1) := by decide +kernel
theorem dX7_drawn_108 : decode cX7_drawn 108 = .ok (.getfield 42, 3) := by decide +kernel
theorem dX7_drawn_111 : decode cX7_drawn 111 = .ok (.aload_n 0, 1) := by decide +kernel
theorem dX7_drawn_112 : decode cX7_drawn 112 = .ok (.getfield 12, 3) := by decide +kernel
theorem dX7_drawn_115 : decode cX7_drawn 115 = .ok (.invokevirtual 221, 3) := by decide +kernel
theorem dX7_drawn_118 : decode cX7_drawn 118 = .ok (.istore 7, 2) := by decide +kernel
theorem dX7_drawn_120 : decode cX7_drawn 120 = .ok (.aload_n 0, 1) := by decide +kernel
theorem dX7_drawn_121 : decode cX7_drawn 121 = .ok (.getfield 42, 3) := by decide +kernel
theorem dX7_drawn_124 : decode cX7_drawn 124 = .ok (.aload_n 0, 1) := by decide +kernel
theorem dX7_drawn_125 : decode cX7_drawn 125 = .ok (.getfield 28, 3) := by decide +kernel
theorem dX7_drawn_128 : decode cX7_drawn 128 = .ok (.getfield 135, 3) := by decide +kernel
theorem dX7_drawn_131 : decode cX7_drawn 131 = .ok (.iload 7, 2) := by decide +kernel
theorem dX7_drawn_133 : decode cX7_drawn 133 = .ok (.aaload, 1) := by decide +kernel
theorem dX7_drawn_134 : decode cX7_drawn 134 = .ok (.invokevirtual 224, 3) := by decide +kernel
theorem dX7_drawn_137 : decode cX7_drawn 137 = .ok (.istore 8, 2) := by decide +kernel
theorem dX7_drawn_139 : decode cX7_drawn 139 = .ok (.aload_n 0, 1) := by decide +kernel
theorem dX7_drawn_140 : decode cX7_drawn 140 = .ok (.getfield 12, 3) := by decide +kernel
theorem dX7_drawn_143 : decode cX7_drawn 143 = .ok (.iload 7, 2) := by decide +kernel
theorem dX7_drawn_145 : decode cX7_drawn 145 = .ok (.iload 8, 2) := by decide +kernel
theorem dX7_drawn_147 : decode cX7_drawn 147 = .ok (.invokevirtual 228, 3) := by decide +kernel
theorem dX7_drawn_150 : decode cX7_drawn 150 = .ok (.iload_n 3, 1) := by decide +kernel
theorem dX7_drawn_151 : decode cX7_drawn 151 = .ok (.bipush 100, 2) := by decide +kernel
theorem dX7_drawn_153 : decode cX7_drawn 153 = .ok (.idiv, 1) := by decide +kernel
theorem dX7_drawn_154 : decode cX7_drawn 154 = .ok (.if_icmp .ne 31, 3) := by decide +kernel
theorem dX7_drawn_157 : decode cX7_drawn 157 = .ok (.iload_n 3, 1) := by decide +kernel
theorem dX7_drawn_158 : decode cX7_drawn 158 = .ok (.bipush 10, 2) := by decide +kernel
theorem dX7_drawn_160 : decode cX7_drawn 160 = .ok (.irem, 1) := by decide +kernel
theorem dX7_drawn_161 : decode cX7_drawn 161 = .ok (.ifCond .eq 21, 3) := by decide +kernel
theorem dX7_drawn_164 : decode cX7_drawn 164 = .ok (.aload_n 0, 1) := by decide +kernel
theorem dX7_drawn_165 : decode cX7_drawn 165 = .ok (.getfield 12, 3) := by decide +kernel
theorem dX7_drawn_168 : decode cX7_drawn 168 = .ok (.iload 7, 2) := by decide +kernel
theorem dX7_drawn_170 : decode cX7_drawn 170 = .ok (.iconst 1, 1) := by decide +kernel
theorem dX7_drawn_171 : decode cX7_drawn 171 = .ok (.iload 8, 2) := by decide +kernel
theorem dX7_drawn_173 : decode cX7_drawn 173 = .ok (.isub, 1) := by decide +kernel
theorem dX7_drawn_174 : decode cX7_drawn 174 = .ok (.invokevirtual 228, 3) := by decide +kernel
theorem dX7_drawn_177 : decode cX7_drawn 177 = .ok (.iload 4, 2) := by decide +kernel
theorem dX7_drawn_179 : decode cX7_drawn 179 = .ok (.if_icmp .ne 6, 3) := by decide +kernel
theorem dX7_drawn_182 : decode cX7_drawn 182 = .ok (.iinc 5 1, 3) := by decide +kernel
theorem dX7_drawn_185 : decode cX7_drawn 185 = .ok (.iinc 6 1, 3) := by decide +kernel
theorem dX7_drawn_188 : decode cX7_drawn 188 = .ok (.goto (-87), 3) := by decide +kernel
theorem dX7_drawn_191 : decode cX7_drawn 191 = .ok (.iload 5, 2) := by decide +kernel
theorem dX7_drawn_193 : decode cX7_drawn 193 = .ok (.ireturn, 1) := by decide +kernel
theorem dX7_draw_0 : decode cX7_draw 0 = .ok (.aload_n 0, 1) := by decide +kernel
theorem dX7_draw_1 : decode cX7_draw 1 = .ok (.getfield 12, 3) := by decide +kernel
theorem dX7_draw_4 : decode cX7_draw 4 = .ok (.invokevirtual 120, 3) := by decide +kernel
theorem dX7_draw_7 : decode cX7_draw 7 = .ok (.ifCond .ne 6, 3) := by decide +kernel
theorem dX7_draw_10 : decode cX7_draw 10 = .ok (.bipush (-5), 2) := by decide +kernel
theorem dX7_draw_12 : decode cX7_draw 12 = .ok (.ireturn, 1) := by decide +kernel
theorem dX7_draw_13 : decode cX7_draw 13 = .ok (.aload_n 0, 1) := by decide +kernel
theorem dX7_draw_14 : decode cX7_draw 14 = .ok (.getfield 28, 3) := by decide +kernel
theorem dX7_draw_17 : decode cX7_draw 17 = .ok (.aload_n 0, 1) := by decide +kernel
theorem dX7_draw_18 : decode cX7_draw 18 = .ok (.getfield 12, 3) := by decide +kernel
theorem dX7_draw_21 : decode cX7_draw 21 = .ok (.aload_n 0, 1) := by decide +kernel
theorem dX7_draw_22 : decode cX7_draw 22 = .ok (.getfield 21, 3) := by decide +kernel
theorem dX7_draw_25 : decode cX7_draw 25 = .ok (.invokevirtual 140, 3) := by decide +kernel
theorem dX7_draw_28 : decode cX7_draw 28 = .ok (.aload_n 0, 1) := by decide +kernel
theorem dX7_draw_29 : decode cX7_draw 29 = .ok (.getfield 42, 3) := by decide +kernel
theorem dX7_draw_32 : decode cX7_draw 32 = .ok (.iload_n 1, 1) := by decide +kernel
theorem dX7_draw_33 : decode cX7_draw 33 = .ok (.putfield 218, 3) := by decide +kernel
theorem dX7_draw_36 : decode cX7_draw 36 = .ok (.aload_n 0, 1) := by decide +kernel
theorem dX7_draw_37 : decode cX7_draw 37 = .ok (.getfield 42, 3) := by decide +kernel
theorem dX7_draw_40 : decode cX7_draw 40 = .ok (.aload_n 0, 1) := by decide +kernel
theorem dX7_draw_41 : decode cX7_draw 41 = .ok (.getfield 12, 3) := by decide +kernel
theorem dX7_draw_44 : decode cX7_draw 44 = .ok (.invokevirtual 221, 3) := by decide +kernel
theorem dX7_draw_47 : decode cX7_draw 47 = .ok (.istore_n 2, 1) := by decide +kernel
theorem dX7_draw_48 : decode cX7_draw 48 = .ok (.aload_n 0, 1) := by decide +kernel
theorem dX7_draw_49 : decode cX7_draw 49 = .ok (.getfield 42, 3) := by decide +kernel
theorem dX7_draw_52 : decode cX7_draw 52 = .ok (.aload_n 0, 1) := by decide +kernel
theorem dX7_draw_53 : decode cX7_draw 53 = .ok (.getfield 28, 3) := by decide +kernel
theorem dX7_draw_56 : decode cX7_draw 56 = .ok (.getfield 135, 3) := by decide +kernel
theorem dX7_draw_59 : decode cX7_draw 59 = .ok (.iload_n 2, 1) := by decide +kernel
theorem dX7_draw_60 : decode cX7_draw 60 = .ok (.aaload, 1) := by decide +kernel
theorem dX7_draw_61 : decode cX7_draw 61 = .ok (.invokevirtual 224, 3) := by decide +kernel
theorem dX7_draw_64 : decode cX7_draw 64 = .ok (.istore_n 3, 1) := by decide +kernel
theorem dX7_draw_65 : decode cX7_draw 65 = .ok (.aload_n 0, 1) := by decide +kernel
theorem dX7_draw_66 : decode cX7_draw 66 = .ok (.getfield 12, 3) := by decide +kernel
theorem dX7_draw_69 : decode cX7_draw 69 = .ok (.iload_n 2, 1) := by decide +kernel
theorem dX7_draw_70 : decode cX7_draw 70 = .ok (.iload_n 3, 1) := by decide +kernel
theorem dX7_draw_71 : decode cX7_draw 71 = .ok (.invokevirtual 228, 3) := by decide +kernel
theorem dX7_draw_74 : decode cX7_draw 74 = .ok (.istore 4, 2) := by decide +kernel
theorem dX7_draw_76 : decode cX7_draw 76 = .ok (.aload_n 0, 1) := by decide +kernel
theorem dX7_draw_77 : decode cX7_draw 77 = .ok (.getfield 42, 3) := by decide +kernel
theorem dX7_draw_80 : decode cX7_draw 80 = .ok (.aload_n 0, 1) := by decide +kernel
theorem dX7_draw_81 : decode cX7_draw 81 = .ok (.getfield 12, 3) := by decide +kernel
theorem dX7_draw_84 : decode cX7_draw 84 = .ok (.iload_n 2, 1) := by decide +kernel
theorem dX7_draw_85 : decode cX7_draw 85 = .ok (.iload 4, 2) := by decide +kernel
theorem dX7_draw_87 : decode cX7_draw 87 = .ok (.invokevirtual 232, 3) := by decide +kernel
theorem dX7_draw_90 : decode cX7_draw 90 = .ok (.bipush 10, 2) := by decide +kernel
theorem dX7_draw_92 : decode cX7_draw 92 = .ok (.iload 4, 2) := by decide +kernel
theorem dX7_draw_94 : decode cX7_draw 94 = .ok (.imul, 1) := by decide +kernel
theorem dX7_draw_95 : decode cX7_draw 95 = .ok (.aload_n 0, 1) := by decide +kernel
theorem dX7_draw_96 : decode cX7_draw 96 = .ok (.getfield 12, 3) := by decide +kernel
theorem dX7_draw_99 : decode cX7_draw 99 = .ok (.iload_n 2, 1) := by decide +kernel
theorem dX7_draw_100 : decode cX7_draw 100 = .ok (.iconst 1, 1) := by decide +kernel
theorem dX7_draw_101 : decode cX7_draw 101 = .ok (.iload_n 3, 1) := by decide +kernel
theorem dX7_draw_102 : decode cX7_draw 102 = .ok (.isub, 1) := by decide +kernel
theorem dX7_draw_103 : decode cX7_draw 103 = .ok (.invokevirtual 228, 3) := by decide +kernel
theorem dX7_draw_106 : decode cX7_draw 106 = .ok (.iadd, 1) := by decide +kernel
theorem dX7_draw_107 : decode cX7_draw 107 = .ok (.ireturn, 1) := by decide +kernel
theorem dX7_putBack_0 : decode cX7_putBack 0 = .ok (.aload_n 0, 1) := by decide +kernel
theorem dX7_putBack_1 : decode cX7_putBack 1 = .ok (.getfield 42, 3) := by decide +kernel
theorem dX7_putBack_4 : decode cX7_putBack 4 = .ok (.aload_n 0, 1) := by decide +kernel
theorem dX7_putBack_5 : decode cX7_putBack 5 = .ok (.getfield 12, 3) := by decide +kernel
theorem dX7_putBack_8 : decode cX7_putBack 8 = .ok (.invokevirtual 236, 3) := by decide +kernel
theorem dX7_putBack_11 : decode cX7_putBack 11 = .ok (.ireturn, 1) := by decide +kernel
theorem dX7_row_0 : decode cX7_row 0 = .ok (.iload_n 1, 1) := by decide +kernel
theorem dX7_row_1 : decode cX7_row 1 = .ok (.bipush 6, 2) := by decide +kernel
theorem dX7_row_3 : decode cX7_row 3 = .ok (.invokestatic 72, 3) := by decide +kernel
theorem dX7_row_6 : decode cX7_row 6 = .ok (.ifCond .eq 17, 3) := by decide +kernel
theorem dX7_row_9 : decode cX7_row 9 = .ok (.iload_n 2, 1) := by decide +kernel
theorem dX7_row_10 : decode cX7_row 10 = .ok (.iconst 5, 1) := by decide +kernel
theorem dX7_row_11 : decode cX7_row 11 = .ok (.invokestatic 72, 3) := by decide +kernel
theorem dX7_row_14 : decode cX7_row 14 = .ok (.ifCond .eq 9, 3) := by decide +kernel
theorem dX7_row_17 : decode cX7_row 17 = .ok (.iload_n 3, 1) := by decide +kernel
theorem dX7_row_18 : decode cX7_row 18 = .ok (.bipush 60, 2) := by decide +kernel
theorem dX7_row_20 : decode cX7_row 20 = .ok (.if_icmp .le 5, 3) := by decide +kernel
theorem dX7_row_23 : decode cX7_row 23 = .ok (.iconst (-1), 1) := by decide +kernel
theorem dX7_row_24 : decode cX7_row 24 = .ok (.ireturn, 1) := by decide +kernel
theorem dX7_row_25 : decode cX7_row 25 = .ok (.iload_n 3, 1) := by decide +kernel
theorem dX7_row_26 : decode cX7_row 26 = .ok (.ifCond .ge 6, 3) := by decide +kernel
theorem dX7_row_29 : decode cX7_row 29 = .ok (.bipush (-14), 2) := by decide +kernel
theorem dX7_row_31 : decode cX7_row 31 = .ok (.ireturn, 1) := by decide +kernel
theorem dX7_row_32 : decode cX7_row 32 = .ok (.aload_n 0, 1) := by decide +kernel
theorem dX7_row_33 : decode cX7_row 33 = .ok (.getfield 55, 3) := by decide +kernel
theorem dX7_row_36 : decode cX7_row 36 = .ok (.iload_n 1, 1) := by decide +kernel
theorem dX7_row_37 : decode cX7_row 37 = .ok (.aaload, 1) := by decide +kernel
theorem dX7_row_38 : decode cX7_row 38 = .ok (.iload_n 2, 1) := by decide +kernel
theorem dX7_row_39 : decode cX7_row 39 = .ok (.iload_n 3, 1) := by decide +kernel
theorem dX7_row_40 : decode cX7_row 40 = .ok (.invokevirtual 284, 3) := by decide +kernel
theorem dX7_row_43 : decode cX7_row 43 = .ok (.iconst 1, 1) := by decide +kernel
theorem dX7_row_44 : decode cX7_row 44 = .ok (.ireturn, 1) := by decide +kernel
theorem dX7_put_0 : decode cX7_put 0 = .ok (.aload_n 0, 1) := by decide +kernel
theorem dX7_put_1 : decode cX7_put 1 = .ok (.iload_n 1, 1) := by decide +kernel
theorem dX7_put_2 : decode cX7_put 2 = .ok (.iload_n 2, 1) := by decide +kernel
theorem dX7_put_3 : decode cX7_put 3 = .ok (.invokevirtual 288, 3) := by decide +kernel
theorem dX7_put_6 : decode cX7_put 6 = .ok (.istore 5, 2) := by decide +kernel
theorem dX7_put_8 : decode cX7_put 8 = .ok (.iload 5, 2) := by decide +kernel
theorem dX7_put_10 : decode cX7_put 10 = .ok (.ifCond .ge 6, 3) := by decide +kernel
theorem dX7_put_13 : decode cX7_put 13 = .ok (.iload 5, 2) := by decide +kernel
theorem dX7_put_15 : decode cX7_put 15 = .ok (.ireturn, 1) := by decide +kernel
theorem dX7_put_16 : decode cX7_put 16 = .ok (.aload_n 0, 1) := by decide +kernel
theorem dX7_put_17 : decode cX7_put 17 = .ok (.getfield 55, 3) := by decide +kernel
theorem dX7_put_20 : decode cX7_put 20 = .ok (.iload_n 1, 1) := by decide +kernel
theorem dX7_put_21 : decode cX7_put 21 = .ok (.aaload, 1) := by decide +kernel
theorem dX7_put_22 : decode cX7_put 22 = .ok (.astore 6, 2) := by decide +kernel
theorem dX7_put_24 : decode cX7_put 24 = .ok (.aload 6, 2) := by decide +kernel
theorem dX7_put_26 : decode cX7_put 26 = .ok (.getfield 94, 3) := by decide +kernel
theorem dX7_put_29 : decode cX7_put 29 = .ok (.iload_n 2, 1) := by decide +kernel
theorem dX7_put_30 : decode cX7_put 30 = .ok (.aload 6, 2) := by decide +kernel
theorem dX7_put_32 : decode cX7_put 32 = .ok (.getfield 291, 3) := by decide +kernel
theorem dX7_put_35 : decode cX7_put 35 = .ok (.lload_n 3, 1) := by decide +kernel
theorem dX7_put_36 : decode cX7_put 36 = .ok (.invokestatic 294, 3) := by decide +kernel
theorem dX7_put_39 : decode cX7_put 39 = .ok (.lastore, 1) := by decide +kernel
theorem dX7_put_40 : decode cX7_put 40 = .ok (.iconst 1, 1) := by decide +kernel
theorem dX7_put_41 : decode cX7_put 41 = .ok (.ireturn, 1) := by decide +kernel
theorem dX7_refusedElement_0 : decode cX7_refusedElement 0 = .ok (.iload_n 1, 1) := by decide +kernel
theorem dX7_refusedElement_1 : decode cX7_refusedElement 1 = .ok (.bipush 6, 2) := by decide +kernel
theorem dX7_refusedElement_3 : decode cX7_refusedElement 3 = .ok (.invokestatic 72, 3) := by decide +kernel
theorem dX7_refusedElement_6 : decode cX7_refusedElement 6 = .ok (.ifCond .ne 5, 3) := by decide +kernel
theorem dX7_refusedElement_9 : decode cX7_refusedElement 9 = .ok (.iconst (-1), 1) := by decide +kernel
theorem dX7_refusedElement_10 : decode cX7_refusedElement 10 = .ok (.ireturn, 1) := by decide +kernel
theorem dX7_refusedElement_11 : decode cX7_refusedElement 11 = .ok (.aload_n 0, 1) := by decide +kernel
theorem dX7_refusedElement_12 : decode cX7_refusedElement 12 = .ok (.getfield 55, 3) := by decide +kernel
theorem dX7_refusedElement_15 : decode cX7_refusedElement 15 = .ok (.iload_n 1, 1) := by decide +kernel
theorem dX7_refusedElement_16 : decode cX7_refusedElement 16 = .ok (.aaload, 1) := by decide +kernel
theorem dX7_refusedElement_17 : decode cX7_refusedElement 17 = .ok (.astore_n 3, 1) := by decide +kernel
theorem dX7_refusedElement_18 : decode cX7_refusedElement 18 = .ok (.aload_n 3, 1) := by decide +kernel
theorem dX7_refusedElement_19 : decode cX7_refusedElement 19 = .ok (.getfield 76, 3) := by decide +kernel
theorem dX7_refusedElement_22 : decode cX7_refusedElement 22 = .ok (.ifCond .ne 6, 3) := by decide +kernel
theorem dX7_refusedElement_25 : decode cX7_refusedElement 25 = .ok (.bipush (-11), 2) := by decide +kernel
theorem dX7_refusedElement_27 : decode cX7_refusedElement 27 = .ok (.ireturn, 1) := by decide +kernel
theorem dX7_refusedElement_28 : decode cX7_refusedElement 28 = .ok (.aload_n 3, 1) := by decide +kernel
theorem dX7_refusedElement_29 : decode cX7_refusedElement 29 = .ok (.getfield 76, 3) := by decide +kernel
theorem dX7_refusedElement_32 : decode cX7_refusedElement 32 = .ok (.iconst 2, 1) := by decide +kernel
theorem dX7_refusedElement_33 : decode cX7_refusedElement 33 = .ok (.if_icmp .eq 6, 3) := by decide +kernel
theorem dX7_refusedElement_36 : decode cX7_refusedElement 36 = .ok (.bipush (-12), 2) := by decide +kernel
theorem dX7_refusedElement_38 : decode cX7_refusedElement 38 = .ok (.ireturn, 1) := by decide +kernel
theorem dX7_refusedElement_39 : decode cX7_refusedElement 39 = .ok (.iload_n 2, 1) := by decide +kernel
theorem dX7_refusedElement_40 : decode cX7_refusedElement 40 = .ok (.aload_n 3, 1) := by decide +kernel
theorem dX7_refusedElement_41 : decode cX7_refusedElement 41 = .ok (.getfield 88, 3) := by decide +kernel
theorem dX7_refusedElement_44 : decode cX7_refusedElement 44 = .ok (.invokestatic 72, 3) := by decide +kernel
theorem dX7_refusedElement_47 : decode cX7_refusedElement 47 = .ok (.ifCond .eq 7, 3) := by decide +kernel
theorem dX7_refusedElement_50 : decode cX7_refusedElement 50 = .ok (.iconst 0, 1) := by decide +kernel
theorem dX7_refusedElement_51 : decode cX7_refusedElement 51 = .ok (.goto 5, 3) := by decide +kernel
theorem dX7_refusedElement_54 : decode cX7_refusedElement 54 = .ok (.bipush (-13), 2) := by decide +kernel
theorem dX7_refusedElement_56 : decode cX7_refusedElement 56 = .ok (.ireturn, 1) := by decide +kernel
theorem dX7_count_0 : decode cX7_count 0 = .ok (.iload_n 1, 1) := by decide +kernel
theorem dX7_count_1 : decode cX7_count 1 = .ok (.tableswitch 84 0 5 #[39, 47, 55, 60, 68, 76], 39) := by decide +kernel
theorem dX7_count_40 : decode cX7_count 40 = .ok (.aload_n 0, 1) := by decide +kernel
theorem dX7_count_41 : decode cX7_count 41 = .ok (.getfield 12, 3) := by decide +kernel
theorem dX7_count_44 : decode cX7_count 44 = .ok (.getfield 91, 3) := by decide +kernel
theorem dX7_count_47 : decode cX7_count 47 = .ok (.ireturn, 1) := by decide +kernel
theorem dX7_count_48 : decode cX7_count 48 = .ok (.aload_n 0, 1) := by decide +kernel
theorem dX7_count_49 : decode cX7_count 49 = .ok (.getfield 42, 3) := by decide +kernel
theorem dX7_count_52 : decode cX7_count 52 = .ok (.invokevirtual 313, 3) := by decide +kernel
theorem dX7_count_55 : decode cX7_count 55 = .ok (.ireturn, 1) := by decide +kernel
theorem dX7_count_56 : decode cX7_count 56 = .ok (.aload_n 0, 1) := by decide +kernel
theorem dX7_count_57 : decode cX7_count 57 = .ok (.getfield 124, 3) := by decide +kernel
theorem dX7_count_60 : decode cX7_count 60 = .ok (.ireturn, 1) := by decide +kernel
theorem dX7_count_61 : decode cX7_count 61 = .ok (.aload_n 0, 1) := by decide +kernel
theorem dX7_count_62 : decode cX7_count 62 = .ok (.getfield 12, 3) := by decide +kernel
theorem dX7_count_65 : decode cX7_count 65 = .ok (.getfield 252, 3) := by decide +kernel
theorem dX7_count_68 : decode cX7_count 68 = .ok (.ireturn, 1) := by decide +kernel
theorem dX7_count_69 : decode cX7_count 69 = .ok (.aload_n 0, 1) := by decide +kernel
theorem dX7_count_70 : decode cX7_count 70 = .ok (.getfield 49, 3) := by decide +kernel
theorem dX7_count_73 : decode cX7_count 73 = .ok (.getfield 278, 3) := by decide +kernel
theorem dX7_count_76 : decode cX7_count 76 = .ok (.ireturn, 1) := by decide +kernel
theorem dX7_count_77 : decode cX7_count 77 = .ok (.aload_n 0, 1) := by decide +kernel
theorem dX7_count_78 : decode cX7_count 78 = .ok (.getfield 49, 3) := by decide +kernel
theorem dX7_count_81 : decode cX7_count 81 = .ok (.getfield 267, 3) := by decide +kernel
theorem dX7_count_84 : decode cX7_count 84 = .ok (.ireturn, 1) := by decide +kernel
theorem dX7_count_85 : decode cX7_count 85 = .ok (.iconst (-1), 1) := by decide +kernel
theorem dX7_count_86 : decode cX7_count 86 = .ok (.ireturn, 1) := by decide +kernel
theorem dX7_within_0 : decode cX7_within 0 = .ok (.iload_n 0, 1) := by decide +kernel
theorem dX7_within_1 : decode cX7_within 1 = .ok (.ifCond .lt 12, 3) := by decide +kernel
theorem dX7_within_4 : decode cX7_within 4 = .ok (.iload_n 0, 1) := by decide +kernel
theorem dX7_within_5 : decode cX7_within 5 = .ok (.iload_n 1, 1) := by decide +kernel
theorem dX7_within_6 : decode cX7_within 6 = .ok (.if_icmp .ge 7, 3) := by decide +kernel
theorem dX7_within_9 : decode cX7_within 9 = .ok (.iconst 1, 1) := by decide +kernel
theorem dX7_within_10 : decode cX7_within 10 = .ok (.goto 4, 3) := by decide +kernel
theorem dX7_within_13 : decode cX7_within 13 = .ok (.iconst 0, 1) := by decide +kernel
theorem dX7_within_14 : decode cX7_within 14 = .ok (.ireturn, 1) := by decide +kernel
theorem dX7_lowest_0 : decode cX7_lowest 0 = .ok (.lload_n 0, 1) := by decide +kernel
theorem dX7_lowest_1 : decode cX7_lowest 1 = .ok (.lconst 0, 1) := by decide +kernel
theorem dX7_lowest_2 : decode cX7_lowest 2 = .ok (.lcmp, 1) := by decide +kernel
theorem dX7_lowest_3 : decode cX7_lowest 3 = .ok (.ifCond .le 9, 3) := by decide +kernel
theorem dX7_lowest_6 : decode cX7_lowest 6 = .ok (.lload_n 2, 1) := by decide +kernel
theorem dX7_lowest_7 : decode cX7_lowest 7 = .ok (.lconst 0, 1) := by decide +kernel
theorem dX7_lowest_8 : decode cX7_lowest 8 = .ok (.lcmp, 1) := by decide +kernel
theorem dX7_lowest_9 : decode cX7_lowest 9 = .ok (.ifCond .gt 14, 3) := by decide +kernel
theorem dX7_lowest_12 : decode cX7_lowest 12 = .ok (.iload 4, 2) := by decide +kernel
theorem dX7_lowest_14 : decode cX7_lowest 14 = .ok (.ifCond .ne 7, 3) := by decide +kernel
theorem dX7_lowest_17 : decode cX7_lowest 17 = .ok (.lconst 0, 1) := by decide +kernel
theorem dX7_lowest_18 : decode cX7_lowest 18 = .ok (.goto 4, 3) := by decide +kernel
theorem dX7_lowest_21 : decode cX7_lowest 21 = .ok (.lconst 1, 1) := by decide +kernel
theorem dX7_lowest_22 : decode cX7_lowest 22 = .ok (.lreturn, 1) := by decide +kernel
theorem dX7_lowest_23 : decode cX7_lowest 23 = .ok (.lload_n 0, 1) := by decide +kernel
theorem dX7_lowest_24 : decode cX7_lowest 24 = .ok (.lload_n 2, 1) := by decide +kernel
theorem dX7_lowest_25 : decode cX7_lowest 25 = .ok (.invokestatic 316, 3) := by decide +kernel
theorem dX7_lowest_28 : decode cX7_lowest 28 = .ok (.lstore 5, 2) := by decide +kernel
theorem dX7_lowest_30 : decode cX7_lowest 30 = .ok (.iload 4, 2) := by decide +kernel
theorem dX7_lowest_32 : decode cX7_lowest 32 = .ok (.ifCond .ne 7, 3) := by decide +kernel
theorem dX7_lowest_35 : decode cX7_lowest 35 = .ok (.lload_n 0, 1) := by decide +kernel
theorem dX7_lowest_36 : decode cX7_lowest 36 = .ok (.goto 4, 3) := by decide +kernel
theorem dX7_lowest_39 : decode cX7_lowest 39 = .ok (.lload_n 2, 1) := by decide +kernel
theorem dX7_lowest_40 : decode cX7_lowest 40 = .ok (.lload 5, 2) := by decide +kernel
theorem dX7_lowest_42 : decode cX7_lowest 42 = .ok (.ldiv, 1) := by decide +kernel
theorem dX7_lowest_43 : decode cX7_lowest 43 = .ok (.lreturn, 1) := by decide +kernel
theorem dX7_commonDivisor_0 : decode cX7_commonDivisor 0 = .ok (.lload_n 0, 1) := by decide +kernel
theorem dX7_commonDivisor_1 : decode cX7_commonDivisor 1 = .ok (.lstore 4, 2) := by decide +kernel
theorem dX7_commonDivisor_3 : decode cX7_commonDivisor 3 = .ok (.lload_n 2, 1) := by decide +kernel
theorem dX7_commonDivisor_4 : decode cX7_commonDivisor 4 = .ok (.lstore 6, 2) := by decide +kernel
theorem dX7_commonDivisor_6 : decode cX7_commonDivisor 6 = .ok (.iconst 0, 1) := by decide +kernel
theorem dX7_commonDivisor_7 : decode cX7_commonDivisor 7 = .ok (.istore 8, 2) := by decide +kernel
theorem dX7_commonDivisor_9 : decode cX7_commonDivisor 9 = .ok (.iload 8, 2) := by decide +kernel
theorem dX7_commonDivisor_11 : decode cX7_commonDivisor 11 = .ok (.sipush 200, 3) := by decide +kernel
theorem dX7_commonDivisor_14 : decode cX7_commonDivisor 14 = .ok (.if_icmp .ge 31, 3) := by decide +kernel
theorem dX7_commonDivisor_17 : decode cX7_commonDivisor 17 = .ok (.lload 6, 2) := by decide +kernel
theorem dX7_commonDivisor_19 : decode cX7_commonDivisor 19 = .ok (.lconst 0, 1) := by decide +kernel
theorem dX7_commonDivisor_20 : decode cX7_commonDivisor 20 = .ok (.lcmp, 1) := by decide +kernel
theorem dX7_commonDivisor_21 : decode cX7_commonDivisor 21 = .ok (.ifCond .eq 24, 3) := by decide +kernel
theorem dX7_commonDivisor_24 : decode cX7_commonDivisor 24 = .ok (.lload 4, 2) := by decide +kernel
theorem dX7_commonDivisor_26 : decode cX7_commonDivisor 26 = .ok (.lload 6, 2) := by decide +kernel
theorem dX7_commonDivisor_28 : decode cX7_commonDivisor 28 = .ok (.lrem, 1) := by decide +kernel
theorem dX7_commonDivisor_29 : decode cX7_commonDivisor 29 = .ok (.lstore 9, 2) := by decide +kernel
theorem dX7_commonDivisor_31 : decode cX7_commonDivisor 31 = .ok (.lload 6, 2) := by decide +kernel
theorem dX7_commonDivisor_33 : decode cX7_commonDivisor 33 = .ok (.lstore 4, 2) := by decide +kernel
theorem dX7_commonDivisor_35 : decode cX7_commonDivisor 35 = .ok (.lload 9, 2) := by decide +kernel
theorem dX7_commonDivisor_37 : decode cX7_commonDivisor 37 = .ok (.lstore 6, 2) := by decide +kernel
theorem dX7_commonDivisor_39 : decode cX7_commonDivisor 39 = .ok (.iinc 8 1, 3) := by decide +kernel
theorem dX7_commonDivisor_42 : decode cX7_commonDivisor 42 = .ok (.goto (-33), 3) := by decide +kernel
theorem dX7_commonDivisor_45 : decode cX7_commonDivisor 45 = .ok (.lload 4, 2) := by decide +kernel
theorem dX7_commonDivisor_47 : decode cX7_commonDivisor 47 = .ok (.lconst 1, 1) := by decide +kernel
theorem dX7_commonDivisor_48 : decode cX7_commonDivisor 48 = .ok (.lcmp, 1) := by decide +kernel
theorem dX7_commonDivisor_49 : decode cX7_commonDivisor 49 = .ok (.ifCond .ge 7, 3) := by decide +kernel
theorem dX7_commonDivisor_52 : decode cX7_commonDivisor 52 = .ok (.lconst 1, 1) := by decide +kernel
theorem dX7_commonDivisor_53 : decode cX7_commonDivisor 53 = .ok (.goto 5, 3) := by decide +kernel
theorem dX7_commonDivisor_56 : decode cX7_commonDivisor 56 = .ok (.lload 4, 2) := by decide +kernel
theorem dX7_commonDivisor_58 : decode cX7_commonDivisor 58 = .ok (.lreturn, 1) := by decide +kernel
