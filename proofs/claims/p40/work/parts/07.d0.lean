theorem dX0_init_0 : decode cX0_init 0 = .ok (.aload_n 0, 1) := by decide +kernel
theorem dX0_init_1 : decode cX0_init 1 = .ok (.invokespecial 3, 3) := by decide +kernel
theorem dX0_init_4 : decode cX0_init 4 = .ok (.aload_n 0, 1) := by decide +kernel
theorem dX0_init_5 : decode cX0_init 5 = .ok (.bipush 50, 2) := by decide +kernel
theorem dX0_init_7 : decode cX0_init 7 = .ok (.newarray .int, 2) := by decide +kernel
theorem dX0_init_9 : decode cX0_init 9 = .ok (.putfield 11, 3) := by decide +kernel
theorem dX0_init_12 : decode cX0_init 12 = .ok (.aload_n 0, 1) := by decide +kernel
theorem dX0_init_13 : decode cX0_init 13 = .ok (.bipush 24, 2) := by decide +kernel
theorem dX0_init_15 : decode cX0_init 15 = .ok (.newarray .int, 2) := by decide +kernel
theorem dX0_init_17 : decode cX0_init 17 = .ok (.putfield 15, 3) := by decide +kernel
theorem dX0_init_20 : decode cX0_init 20 = .ok (.return_, 1) := by decide +kernel
theorem dX1_init_0 : decode cX1_init 0 = .ok (.aload_n 0, 1) := by decide +kernel
theorem dX1_init_1 : decode cX1_init 1 = .ok (.invokespecial 3, 3) := by decide +kernel
theorem dX1_init_4 : decode cX1_init 4 = .ok (.aload_n 0, 1) := by decide +kernel
theorem dX1_init_5 : decode cX1_init 5 = .ok (.bipush 8, 2) := by decide +kernel
theorem dX1_init_7 : decode cX1_init 7 = .ok (.newarray .int, 2) := by decide +kernel
theorem dX1_init_9 : decode cX1_init 9 = .ok (.putfield 9, 3) := by decide +kernel
theorem dX1_init_12 : decode cX1_init 12 = .ok (.aload_n 0, 1) := by decide +kernel
theorem dX1_init_13 : decode cX1_init 13 = .ok (.bipush 6, 2) := by decide +kernel
theorem dX1_init_15 : decode cX1_init 15 = .ok (.newarray .int, 2) := by decide +kernel
theorem dX1_init_17 : decode cX1_init 17 = .ok (.putfield 15, 3) := by decide +kernel
theorem dX1_init_20 : decode cX1_init 20 = .ok (.aload_n 0, 1) := by decide +kernel
theorem dX1_init_21 : decode cX1_init 21 = .ok (.iconst (-1), 1) := by decide +kernel
theorem dX1_init_22 : decode cX1_init 22 = .ok (.putfield 18, 3) := by decide +kernel
theorem dX1_init_25 : decode cX1_init 25 = .ok (.aload_n 0, 1) := by decide +kernel
theorem dX1_init_26 : decode cX1_init 26 = .ok (.bipush 8, 2) := by decide +kernel
theorem dX1_init_28 : decode cX1_init 28 = .ok (.newarray .int, 2) := by decide +kernel
theorem dX1_init_30 : decode cX1_init 30 = .ok (.putfield 22, 3) := by decide +kernel
theorem dX1_init_33 : decode cX1_init 33 = .ok (.aload_n 0, 1) := by decide +kernel
theorem dX1_init_34 : decode cX1_init 34 = .ok (.bipush 8, 2) := by decide +kernel
theorem dX1_init_36 : decode cX1_init 36 = .ok (.newarray .int, 2) := by decide +kernel
theorem dX1_init_38 : decode cX1_init 38 = .ok (.putfield 25, 3) := by decide +kernel
theorem dX1_init_41 : decode cX1_init 41 = .ok (.aload_n 0, 1) := by decide +kernel
theorem dX1_init_42 : decode cX1_init 42 = .ok (.bipush 6, 2) := by decide +kernel
theorem dX1_init_44 : decode cX1_init 44 = .ok (.newarray .int, 2) := by decide +kernel
theorem dX1_init_46 : decode cX1_init 46 = .ok (.putfield 28, 3) := by decide +kernel
theorem dX1_init_49 : decode cX1_init 49 = .ok (.aload_n 0, 1) := by decide +kernel
theorem dX1_init_50 : decode cX1_init 50 = .ok (.iconst (-1), 1) := by decide +kernel
theorem dX1_init_51 : decode cX1_init 51 = .ok (.putfield 31, 3) := by decide +kernel
theorem dX1_init_54 : decode cX1_init 54 = .ok (.return_, 1) := by decide +kernel
theorem dX1_lot_0 : decode cX1_lot 0 = .ok (.aload_n 0, 1) := by decide +kernel
theorem dX1_lot_1 : decode cX1_lot 1 = .ok (.aload_n 0, 1) := by decide +kernel
theorem dX1_lot_2 : decode cX1_lot 2 = .ok (.getfield 34, 3) := by decide +kernel
theorem dX1_lot_5 : decode cX1_lot 5 = .ok (.ldc 37, 2) := by decide +kernel
theorem dX1_lot_7 : decode cX1_lot 7 = .ok (.imul, 1) := by decide +kernel
theorem dX1_lot_8 : decode cX1_lot 8 = .ok (.sipush 12345, 3) := by decide +kernel
theorem dX1_lot_11 : decode cX1_lot 11 = .ok (.iadd, 1) := by decide +kernel
theorem dX1_lot_12 : decode cX1_lot 12 = .ok (.putfield 34, 3) := by decide +kernel
theorem dX1_lot_15 : decode cX1_lot 15 = .ok (.iload_n 1, 1) := by decide +kernel
theorem dX1_lot_16 : decode cX1_lot 16 = .ok (.iconst 1, 1) := by decide +kernel
theorem dX1_lot_17 : decode cX1_lot 17 = .ok (.if_icmp .ge 7, 3) := by decide +kernel
theorem dX1_lot_20 : decode cX1_lot 20 = .ok (.iconst 0, 1) := by decide +kernel
theorem dX1_lot_21 : decode cX1_lot 21 = .ok (.goto 12, 3) := by decide +kernel
theorem dX1_lot_24 : decode cX1_lot 24 = .ok (.aload_n 0, 1) := by decide +kernel
theorem dX1_lot_25 : decode cX1_lot 25 = .ok (.getfield 34, 3) := by decide +kernel
theorem dX1_lot_28 : decode cX1_lot 28 = .ok (.bipush 8, 2) := by decide +kernel
theorem dX1_lot_30 : decode cX1_lot 30 = .ok (.iushr, 1) := by decide +kernel
theorem dX1_lot_31 : decode cX1_lot 31 = .ok (.iload_n 1, 1) := by decide +kernel
theorem dX1_lot_32 : decode cX1_lot 32 = .ok (.irem, 1) := by decide +kernel
theorem dX1_lot_33 : decode cX1_lot 33 = .ok (.ireturn, 1) := by decide +kernel
theorem dX1_pickCard_0 : decode cX1_pickCard 0 = .ok (.aload_n 0, 1) := by decide +kernel
theorem dX1_pickCard_1 : decode cX1_pickCard 1 = .ok (.aload_n 1, 1) := by decide +kernel
theorem dX1_pickCard_2 : decode cX1_pickCard 2 = .ok (.invokevirtual 38, 3) := by decide +kernel
theorem dX1_pickCard_5 : decode cX1_pickCard 5 = .ok (.invokevirtual 44, 3) := by decide +kernel
theorem dX1_pickCard_8 : decode cX1_pickCard 8 = .ok (.istore_n 2, 1) := by decide +kernel
theorem dX1_pickCard_9 : decode cX1_pickCard 9 = .ok (.iconst 0, 1) := by decide +kernel
theorem dX1_pickCard_10 : decode cX1_pickCard 10 = .ok (.istore_n 3, 1) := by decide +kernel
theorem dX1_pickCard_11 : decode cX1_pickCard 11 = .ok (.iload_n 3, 1) := by decide +kernel
theorem dX1_pickCard_12 : decode cX1_pickCard 12 = .ok (.aload_n 1, 1) := by decide +kernel
theorem dX1_pickCard_13 : decode cX1_pickCard 13 = .ok (.getfield 48, 3) := by decide +kernel
theorem dX1_pickCard_16 : decode cX1_pickCard 16 = .ok (.if_icmp .ge 26, 3) := by decide +kernel
theorem dX1_pickCard_19 : decode cX1_pickCard 19 = .ok (.iload_n 2, 1) := by decide +kernel
theorem dX1_pickCard_20 : decode cX1_pickCard 20 = .ok (.aload_n 1, 1) := by decide +kernel
theorem dX1_pickCard_21 : decode cX1_pickCard 21 = .ok (.getfield 51, 3) := by decide +kernel
theorem dX1_pickCard_24 : decode cX1_pickCard 24 = .ok (.iconst 0, 1) := by decide +kernel
theorem dX1_pickCard_25 : decode cX1_pickCard 25 = .ok (.aaload, 1) := by decide +kernel
theorem dX1_pickCard_26 : decode cX1_pickCard 26 = .ok (.iload_n 3, 1) := by decide +kernel
theorem dX1_pickCard_27 : decode cX1_pickCard 27 = .ok (.iaload, 1) := by decide +kernel
theorem dX1_pickCard_28 : decode cX1_pickCard 28 = .ok (.isub, 1) := by decide +kernel
theorem dX1_pickCard_29 : decode cX1_pickCard 29 = .ok (.istore_n 2, 1) := by decide +kernel
theorem dX1_pickCard_30 : decode cX1_pickCard 30 = .ok (.iload_n 2, 1) := by decide +kernel
theorem dX1_pickCard_31 : decode cX1_pickCard 31 = .ok (.ifCond .ge 5, 3) := by decide +kernel
theorem dX1_pickCard_34 : decode cX1_pickCard 34 = .ok (.iload_n 3, 1) := by decide +kernel
theorem dX1_pickCard_35 : decode cX1_pickCard 35 = .ok (.ireturn, 1) := by decide +kernel
theorem dX1_pickCard_36 : decode cX1_pickCard 36 = .ok (.iinc 3 1, 3) := by decide +kernel
theorem dX1_pickCard_39 : decode cX1_pickCard 39 = .ok (.goto (-28), 3) := by decide +kernel
theorem dX1_pickCard_42 : decode cX1_pickCard 42 = .ok (.iconst 0, 1) := by decide +kernel
theorem dX1_pickCard_43 : decode cX1_pickCard 43 = .ok (.ireturn, 1) := by decide +kernel
theorem dX1_pickSide_0 : decode cX1_pickSide 0 = .ok (.aload_n 0, 1) := by decide +kernel
theorem dX1_pickSide_1 : decode cX1_pickSide 1 = .ok (.aload_n 1, 1) := by decide +kernel
theorem dX1_pickSide_2 : decode cX1_pickSide 2 = .ok (.iconst 0, 1) := by decide +kernel
theorem dX1_pickSide_3 : decode cX1_pickSide 3 = .ok (.iaload, 1) := by decide +kernel
theorem dX1_pickSide_4 : decode cX1_pickSide 4 = .ok (.aload_n 1, 1) := by decide +kernel
theorem dX1_pickSide_5 : decode cX1_pickSide 5 = .ok (.iconst 1, 1) := by decide +kernel
theorem dX1_pickSide_6 : decode cX1_pickSide 6 = .ok (.iaload, 1) := by decide +kernel
theorem dX1_pickSide_7 : decode cX1_pickSide 7 = .ok (.iadd, 1) := by decide +kernel
theorem dX1_pickSide_8 : decode cX1_pickSide 8 = .ok (.invokevirtual 44, 3) := by decide +kernel
theorem dX1_pickSide_11 : decode cX1_pickSide 11 = .ok (.aload_n 1, 1) := by decide +kernel
theorem dX1_pickSide_12 : decode cX1_pickSide 12 = .ok (.iconst 0, 1) := by decide +kernel
theorem dX1_pickSide_13 : decode cX1_pickSide 13 = .ok (.iaload, 1) := by decide +kernel
theorem dX1_pickSide_14 : decode cX1_pickSide 14 = .ok (.if_icmp .ge 7, 3) := by decide +kernel
theorem dX1_pickSide_17 : decode cX1_pickSide 17 = .ok (.iconst 0, 1) := by decide +kernel
theorem dX1_pickSide_18 : decode cX1_pickSide 18 = .ok (.goto 4, 3) := by decide +kernel
theorem dX1_pickSide_21 : decode cX1_pickSide 21 = .ok (.iconst 1, 1) := by decide +kernel
theorem dX1_pickSide_22 : decode cX1_pickSide 22 = .ok (.ireturn, 1) := by decide +kernel
theorem dX1_layAside_0 : decode cX1_layAside 0 = .ok (.aload_n 1, 1) := by decide +kernel
theorem dX1_layAside_1 : decode cX1_layAside 1 = .ok (.getfield 51, 3) := by decide +kernel
theorem dX1_layAside_4 : decode cX1_layAside 4 = .ok (.iconst 0, 1) := by decide +kernel
theorem dX1_layAside_5 : decode cX1_layAside 5 = .ok (.aaload, 1) := by decide +kernel
theorem dX1_layAside_6 : decode cX1_layAside 6 = .ok (.iload_n 2, 1) := by decide +kernel
theorem dX1_layAside_7 : decode cX1_layAside 7 = .ok (.dup2, 1) := by decide +kernel
theorem dX1_layAside_8 : decode cX1_layAside 8 = .ok (.iaload, 1) := by decide +kernel
theorem dX1_layAside_9 : decode cX1_layAside 9 = .ok (.iconst 1, 1) := by decide +kernel
theorem dX1_layAside_10 : decode cX1_layAside 10 = .ok (.isub, 1) := by decide +kernel
theorem dX1_layAside_11 : decode cX1_layAside 11 = .ok (.iastore, 1) := by decide +kernel
theorem dX1_layAside_12 : decode cX1_layAside 12 = .ok (.aload_n 0, 1) := by decide +kernel
theorem dX1_layAside_13 : decode cX1_layAside 13 = .ok (.getfield 9, 3) := by decide +kernel
theorem dX1_layAside_16 : decode cX1_layAside 16 = .ok (.iload_n 2, 1) := by decide +kernel
theorem dX1_layAside_17 : decode cX1_layAside 17 = .ok (.dup2, 1) := by decide +kernel
theorem dX1_layAside_18 : decode cX1_layAside 18 = .ok (.iaload, 1) := by decide +kernel
theorem dX1_layAside_19 : decode cX1_layAside 19 = .ok (.iconst 1, 1) := by decide +kernel
theorem dX1_layAside_20 : decode cX1_layAside 20 = .ok (.iadd, 1) := by decide +kernel
theorem dX1_layAside_21 : decode cX1_layAside 21 = .ok (.iastore, 1) := by decide +kernel
theorem dX1_layAside_22 : decode cX1_layAside 22 = .ok (.aload_n 0, 1) := by decide +kernel
theorem dX1_layAside_23 : decode cX1_layAside 23 = .ok (.getfield 15, 3) := by decide +kernel
theorem dX1_layAside_26 : decode cX1_layAside 26 = .ok (.iload_n 3, 1) := by decide +kernel
theorem dX1_layAside_27 : decode cX1_layAside 27 = .ok (.dup2, 1) := by decide +kernel
theorem dX1_layAside_28 : decode cX1_layAside 28 = .ok (.iaload, 1) := by decide +kernel
theorem dX1_layAside_29 : decode cX1_layAside 29 = .ok (.iconst 1, 1) := by decide +kernel
theorem dX1_layAside_30 : decode cX1_layAside 30 = .ok (.iadd, 1) := by decide +kernel
theorem dX1_layAside_31 : decode cX1_layAside 31 = .ok (.iastore, 1) := by decide +kernel
theorem dX1_layAside_32 : decode cX1_layAside 32 = .ok (.aload_n 0, 1) := by decide +kernel
theorem dX1_layAside_33 : decode cX1_layAside 33 = .ok (.iload_n 2, 1) := by decide +kernel
theorem dX1_layAside_34 : decode cX1_layAside 34 = .ok (.putfield 18, 3) := by decide +kernel
theorem dX1_layAside_37 : decode cX1_layAside 37 = .ok (.return_, 1) := by decide +kernel
theorem dX1_layAllBack_0 : decode cX1_layAllBack 0 = .ok (.aload_n 0, 1) := by decide +kernel
theorem dX1_layAllBack_1 : decode cX1_layAllBack 1 = .ok (.invokevirtual 55, 3) := by decide +kernel
theorem dX1_layAllBack_4 : decode cX1_layAllBack 4 = .ok (.istore_n 2, 1) := by decide +kernel
theorem dX1_layAllBack_5 : decode cX1_layAllBack 5 = .ok (.iconst 0, 1) := by decide +kernel
theorem dX1_layAllBack_6 : decode cX1_layAllBack 6 = .ok (.istore_n 3, 1) := by decide +kernel
theorem dX1_layAllBack_7 : decode cX1_layAllBack 7 = .ok (.iload_n 3, 1) := by decide +kernel
theorem dX1_layAllBack_8 : decode cX1_layAllBack 8 = .ok (.bipush 8, 2) := by decide +kernel
theorem dX1_layAllBack_10 : decode cX1_layAllBack 10 = .ok (.if_icmp .ge 27, 3) := by decide +kernel
theorem dX1_layAllBack_13 : decode cX1_layAllBack 13 = .ok (.aload_n 1, 1) := by decide +kernel
theorem dX1_layAllBack_14 : decode cX1_layAllBack 14 = .ok (.iload_n 3, 1) := by decide +kernel
theorem dX1_layAllBack_15 : decode cX1_layAllBack 15 = .ok (.aload_n 0, 1) := by decide +kernel
theorem dX1_layAllBack_16 : decode cX1_layAllBack 16 = .ok (.getfield 9, 3) := by decide +kernel
theorem dX1_layAllBack_19 : decode cX1_layAllBack 19 = .ok (.iload_n 3, 1) := by decide +kernel
theorem dX1_layAllBack_20 : decode cX1_layAllBack 20 = .ok (.iaload, 1) := by decide +kernel
theorem dX1_layAllBack_21 : decode cX1_layAllBack 21 = .ok (.invokevirtual 58, 3) := by decide +kernel
theorem dX1_layAllBack_24 : decode cX1_layAllBack 24 = .ok (.aload_n 0, 1) := by decide +kernel
theorem dX1_layAllBack_25 : decode cX1_layAllBack 25 = .ok (.getfield 9, 3) := by decide +kernel
theorem dX1_layAllBack_28 : decode cX1_layAllBack 28 = .ok (.iload_n 3, 1) := by decide +kernel
theorem dX1_layAllBack_29 : decode cX1_layAllBack 29 = .ok (.iconst 0, 1) := by decide +kernel
theorem dX1_layAllBack_30 : decode cX1_layAllBack 30 = .ok (.iastore, 1) := by decide +kernel
theorem dX1_layAllBack_31 : decode cX1_layAllBack 31 = .ok (.iinc 3 1, 3) := by decide +kernel
theorem dX1_layAllBack_34 : decode cX1_layAllBack 34 = .ok (.goto (-27), 3) := by decide +kernel
theorem dX1_layAllBack_37 : decode cX1_layAllBack 37 = .ok (.iload_n 2, 1) := by decide +kernel
theorem dX1_layAllBack_38 : decode cX1_layAllBack 38 = .ok (.ireturn, 1) := by decide +kernel
theorem dX1_allAside_0 : decode cX1_allAside 0 = .ok (.iconst 0, 1) := by decide +kernel
theorem dX1_allAside_1 : decode cX1_allAside 1 = .ok (.istore_n 1, 1) := by decide +kernel
theorem dX1_allAside_2 : decode cX1_allAside 2 = .ok (.iconst 0, 1) := by decide +kernel
theorem dX1_allAside_3 : decode cX1_allAside 3 = .ok (.istore_n 2, 1) := by decide +kernel
theorem dX1_allAside_4 : decode cX1_allAside 4 = .ok (.iload_n 2, 1) := by decide +kernel
theorem dX1_allAside_5 : decode cX1_allAside 5 = .ok (.bipush 8, 2) := by decide +kernel
theorem dX1_allAside_7 : decode cX1_allAside 7 = .ok (.if_icmp .ge 18, 3) := by decide +kernel
theorem dX1_allAside_10 : decode cX1_allAside 10 = .ok (.iload_n 1, 1) := by decide +kernel
theorem dX1_allAside_11 : decode cX1_allAside 11 = .ok (.aload_n 0, 1) := by decide +kernel
theorem dX1_allAside_12 : decode cX1_allAside 12 = .ok (.getfield 9, 3) := by decide +kernel
theorem dX1_allAside_15 : decode cX1_allAside 15 = .ok (.iload_n 2, 1) := by decide +kernel
theorem dX1_allAside_16 : decode cX1_allAside 16 = .ok (.iaload, 1) := by decide +kernel
theorem dX1_allAside_17 : decode cX1_allAside 17 = .ok (.iadd, 1) := by decide +kernel
theorem dX1_allAside_18 : decode cX1_allAside 18 = .ok (.istore_n 1, 1) := by decide +kernel
theorem dX1_allAside_19 : decode cX1_allAside 19 = .ok (.iinc 2 1, 3) := by decide +kernel
theorem dX1_allAside_22 : decode cX1_allAside 22 = .ok (.goto (-18), 3) := by decide +kernel
theorem dX1_allAside_25 : decode cX1_allAside 25 = .ok (.iload_n 1, 1) := by decide +kernel
theorem dX1_allAside_26 : decode cX1_allAside 26 = .ok (.ireturn, 1) := by decide +kernel
theorem dX2_init_0 : decode cX2_init 0 = .ok (.aload_n 0, 1) := by decide +kernel
theorem dX2_init_1 : decode cX2_init 1 = .ok (.invokespecial 3, 3) := by decide +kernel
theorem dX2_init_4 : decode cX2_init 4 = .ok (.aload_n 0, 1) := by decide +kernel
theorem dX2_init_5 : decode cX2_init 5 = .ok (.sipush 128, 3) := by decide +kernel
theorem dX2_init_8 : decode cX2_init 8 = .ok (.newarray .int, 2) := by decide +kernel
theorem dX2_init_10 : decode cX2_init 10 = .ok (.putfield 9, 3) := by decide +kernel
theorem dX2_init_13 : decode cX2_init 13 = .ok (.aload_n 0, 1) := by decide +kernel
theorem dX2_init_14 : decode cX2_init 14 = .ok (.sipush 128, 3) := by decide +kernel
theorem dX2_init_17 : decode cX2_init 17 = .ok (.newarray .int, 2) := by decide +kernel
theorem dX2_init_19 : decode cX2_init 19 = .ok (.putfield 15, 3) := by decide +kernel
theorem dX2_init_22 : decode cX2_init 22 = .ok (.aload_n 0, 1) := by decide +kernel
theorem dX2_init_23 : decode cX2_init 23 = .ok (.bipush 120, 2) := by decide +kernel
theorem dX2_init_25 : decode cX2_init 25 = .ok (.newarray .int, 2) := by decide +kernel
theorem dX2_init_27 : decode cX2_init 27 = .ok (.putfield 18, 3) := by decide +kernel
theorem dX2_init_30 : decode cX2_init 30 = .ok (.aload_n 0, 1) := by decide +kernel
theorem dX2_init_31 : decode cX2_init 31 = .ok (.sipush 128, 3) := by decide +kernel
theorem dX2_init_34 : decode cX2_init 34 = .ok (.newarray .int, 2) := by decide +kernel
theorem dX2_init_36 : decode cX2_init 36 = .ok (.putfield 21, 3) := by decide +kernel
theorem dX2_init_39 : decode cX2_init 39 = .ok (.return_, 1) := by decide +kernel
theorem dX2_stands_0 : decode cX2_stands 0 = .ok (.aload_n 0, 1) := by decide +kernel
theorem dX2_stands_1 : decode cX2_stands 1 = .ok (.getfield 24, 3) := by decide +kernel
theorem dX2_stands_4 : decode cX2_stands 4 = .ok (.ifCond .le 7, 3) := by decide +kernel
theorem dX2_stands_7 : decode cX2_stands 7 = .ok (.iconst 1, 1) := by decide +kernel
theorem dX2_stands_8 : decode cX2_stands 8 = .ok (.goto 4, 3) := by decide +kernel
theorem dX2_stands_11 : decode cX2_stands 11 = .ok (.iconst 0, 1) := by decide +kernel
theorem dX2_stands_12 : decode cX2_stands 12 = .ok (.ireturn, 1) := by decide +kernel
theorem dX2_read_0 : decode cX2_read 0 = .ok (.aload_n 0, 1) := by decide +kernel
theorem dX2_read_1 : decode cX2_read 1 = .ok (.iload_n 2, 1) := by decide +kernel
theorem dX2_read_2 : decode cX2_read 2 = .ok (.bipush 120, 2) := by decide +kernel
theorem dX2_read_4 : decode cX2_read 4 = .ok (.invokestatic 28, 3) := by decide +kernel
theorem dX2_read_7 : decode cX2_read 7 = .ok (.putfield 34, 3) := by decide +kernel
theorem dX2_read_10 : decode cX2_read 10 = .ok (.aload_n 1, 1) := by decide +kernel
theorem dX2_read_11 : decode cX2_read 11 = .ok (.iconst 0, 1) := by decide +kernel
theorem dX2_read_12 : decode cX2_read 12 = .ok (.aload_n 0, 1) := by decide +kernel
theorem dX2_read_13 : decode cX2_read 13 = .ok (.getfield 18, 3) := by decide +kernel
theorem dX2_read_16 : decode cX2_read 16 = .ok (.iconst 0, 1) := by decide +kernel
theorem dX2_read_17 : decode cX2_read 17 = .ok (.aload_n 0, 1) := by decide +kernel
theorem dX2_read_18 : decode cX2_read 18 = .ok (.getfield 34, 3) := by decide +kernel
theorem dX2_read_21 : decode cX2_read 21 = .ok (.invokestatic 37, 3) := by decide +kernel
theorem dX2_read_24 : decode cX2_read 24 = .ok (.aload_n 0, 1) := by decide +kernel
theorem dX2_read_25 : decode cX2_read 25 = .ok (.iconst 0, 1) := by decide +kernel
theorem dX2_read_26 : decode cX2_read 26 = .ok (.putfield 43, 3) := by decide +kernel
theorem dX2_read_29 : decode cX2_read 29 = .ok (.aload_n 0, 1) := by decide +kernel
theorem dX2_read_30 : decode cX2_read 30 = .ok (.iconst (-1), 1) := by decide +kernel
theorem dX2_read_31 : decode cX2_read 31 = .ok (.putfield 46, 3) := by decide +kernel
theorem dX2_read_34 : decode cX2_read 34 = .ok (.aload_n 0, 1) := by decide +kernel
theorem dX2_read_35 : decode cX2_read 35 = .ok (.iconst 0, 1) := by decide +kernel
theorem dX2_read_36 : decode cX2_read 36 = .ok (.putfield 49, 3) := by decide +kernel
theorem dX2_read_39 : decode cX2_read 39 = .ok (.aload_n 0, 1) := by decide +kernel
theorem dX2_read_40 : decode cX2_read 40 = .ok (.invokevirtual 52, 3) := by decide +kernel
theorem dX2_read_43 : decode cX2_read 43 = .ok (.iconst 0, 1) := by decide +kernel
theorem dX2_read_44 : decode cX2_read 44 = .ok (.istore_n 3, 1) := by decide +kernel
theorem dX2_read_45 : decode cX2_read 45 = .ok (.iload_n 3, 1) := by decide +kernel
theorem dX2_read_46 : decode cX2_read 46 = .ok (.aload_n 0, 1) := by decide +kernel
theorem dX2_read_47 : decode cX2_read 47 = .ok (.getfield 34, 3) := by decide +kernel
theorem dX2_read_50 : decode cX2_read 50 = .ok (.if_icmp .ge 47, 3) := by decide +kernel
theorem dX2_read_53 : decode cX2_read 53 = .ok (.aload_n 0, 1) := by decide +kernel
theorem dX2_read_54 : decode cX2_read 54 = .ok (.getfield 46, 3) := by decide +kernel
theorem dX2_read_57 : decode cX2_read 57 = .ok (.ifCond .ge 40, 3) := by decide +kernel
theorem dX2_read_60 : decode cX2_read 60 = .ok (.aload_n 0, 1) := by decide +kernel
theorem dX2_read_61 : decode cX2_read 61 = .ok (.getfield 43, 3) := by decide +kernel
theorem dX2_read_64 : decode cX2_read 64 = .ok (.aload_n 0, 1) := by decide +kernel
theorem dX2_read_65 : decode cX2_read 65 = .ok (.getfield 34, 3) := by decide +kernel
theorem dX2_read_68 : decode cX2_read 68 = .ok (.if_icmp .ge 29, 3) := by decide +kernel
theorem dX2_read_71 : decode cX2_read 71 = .ok (.aload_n 0, 1) := by decide +kernel
theorem dX2_read_72 : decode cX2_read 72 = .ok (.bipush 59, 2) := by decide +kernel
theorem dX2_read_74 : decode cX2_read 74 = .ok (.invokevirtual 55, 3) := by decide +kernel
theorem dX2_read_77 : decode cX2_read 77 = .ok (.ifCond .eq 10, 3) := by decide +kernel
theorem dX2_read_80 : decode cX2_read 80 = .ok (.aload_n 0, 1) := by decide +kernel
theorem dX2_read_81 : decode cX2_read 81 = .ok (.invokevirtual 52, 3) := by decide +kernel
theorem dX2_read_84 : decode cX2_read 84 = .ok (.goto 7, 3) := by decide +kernel
theorem dX2_read_87 : decode cX2_read 87 = .ok (.aload_n 0, 1) := by decide +kernel
theorem dX2_read_88 : decode cX2_read 88 = .ok (.invokevirtual 59, 3) := by decide +kernel
theorem dX2_read_91 : decode cX2_read 91 = .ok (.iinc 3 1, 3) := by decide +kernel
theorem dX2_read_94 : decode cX2_read 94 = .ok (.goto (-49), 3) := by decide +kernel
theorem dX2_read_97 : decode cX2_read 97 = .ok (.aload_n 0, 1) := by decide +kernel
theorem dX2_read_98 : decode cX2_read 98 = .ok (.getfield 46, 3) := by decide +kernel
theorem dX2_read_101 : decode cX2_read 101 = .ok (.ifCond .ge 29, 3) := by decide +kernel
theorem dX2_read_104 : decode cX2_read 104 = .ok (.aload_n 0, 1) := by decide +kernel
theorem dX2_read_105 : decode cX2_read 105 = .ok (.getfield 9, 3) := by decide +kernel
theorem dX2_read_108 : decode cX2_read 108 = .ok (.astore_n 3, 1) := by decide +kernel
theorem dX2_read_109 : decode cX2_read 109 = .ok (.aload_n 0, 1) := by decide +kernel
theorem dX2_read_110 : decode cX2_read 110 = .ok (.aload_n 0, 1) := by decide +kernel
theorem dX2_read_111 : decode cX2_read 111 = .ok (.getfield 15, 3) := by decide +kernel
theorem dX2_read_114 : decode cX2_read 114 = .ok (.putfield 9, 3) := by decide +kernel
theorem dX2_read_117 : decode cX2_read 117 = .ok (.aload_n 0, 1) := by decide +kernel
theorem dX2_read_118 : decode cX2_read 118 = .ok (.aload_n 0, 1) := by decide +kernel
theorem dX2_read_119 : decode cX2_read 119 = .ok (.getfield 49, 3) := by decide +kernel
theorem dX2_read_122 : decode cX2_read 122 = .ok (.putfield 24, 3) := by decide +kernel
theorem dX2_read_125 : decode cX2_read 125 = .ok (.aload_n 0, 1) := by decide +kernel
theorem dX2_read_126 : decode cX2_read 126 = .ok (.aload_n 3, 1) := by decide +kernel
theorem dX2_read_127 : decode cX2_read 127 = .ok (.putfield 15, 3) := by decide +kernel
theorem dX2_read_130 : decode cX2_read 130 = .ok (.aload_n 0, 1) := by decide +kernel
theorem dX2_read_131 : decode cX2_read 131 = .ok (.getfield 46, 3) := by decide +kernel
theorem dX2_read_134 : decode cX2_read 134 = .ok (.ireturn, 1) := by decide +kernel
theorem dX2_readLine_0 : decode cX2_readLine 0 = .ok (.aload_n 0, 1) := by decide +kernel
theorem dX2_readLine_1 : decode cX2_readLine 1 = .ok (.iconst 0, 1) := by decide +kernel
theorem dX2_readLine_2 : decode cX2_readLine 2 = .ok (.iconst 0, 1) := by decide +kernel
theorem dX2_readLine_3 : decode cX2_readLine 3 = .ok (.invokevirtual 62, 3) := by decide +kernel
theorem dX2_readLine_6 : decode cX2_readLine 6 = .ok (.aload_n 0, 1) := by decide +kernel
theorem dX2_readLine_7 : decode cX2_readLine 7 = .ok (.bipush 63, 2) := by decide +kernel
theorem dX2_readLine_9 : decode cX2_readLine 9 = .ok (.invokevirtual 55, 3) := by decide +kernel
theorem dX2_readLine_12 : decode cX2_readLine 12 = .ok (.ifCond .eq 18, 3) := by decide +kernel
theorem dX2_readLine_15 : decode cX2_readLine 15 = .ok (.aload_n 0, 1) := by decide +kernel
theorem dX2_readLine_16 : decode cX2_readLine 16 = .ok (.iconst 0, 1) := by decide +kernel
theorem dX2_readLine_17 : decode cX2_readLine 17 = .ok (.iconst 0, 1) := by decide +kernel
theorem dX2_readLine_18 : decode cX2_readLine 18 = .ok (.invokevirtual 62, 3) := by decide +kernel
theorem dX2_readLine_21 : decode cX2_readLine 21 = .ok (.aload_n 0, 1) := by decide +kernel
theorem dX2_readLine_22 : decode cX2_readLine 22 = .ok (.bipush (-63), 2) := by decide +kernel
theorem dX2_readLine_24 : decode cX2_readLine 24 = .ok (.invokevirtual 66, 3) := by decide +kernel
theorem dX2_readLine_27 : decode cX2_readLine 27 = .ok (.goto 9, 3) := by decide +kernel
theorem dX2_readLine_30 : decode cX2_readLine 30 = .ok (.aload_n 0, 1) := by decide +kernel
theorem dX2_readLine_31 : decode cX2_readLine 31 = .ok (.bipush (-59), 2) := by decide +kernel
theorem dX2_readLine_33 : decode cX2_readLine 33 = .ok (.invokevirtual 66, 3) := by decide +kernel
theorem dX2_readLine_36 : decode cX2_readLine 36 = .ok (.return_, 1) := by decide +kernel
theorem dX2_readJoined_0 : decode cX2_readJoined 0 = .ok (.aload_n 0, 1) := by decide +kernel
theorem dX2_readJoined_1 : decode cX2_readJoined 1 = .ok (.iload_n 1, 1) := by decide +kernel
theorem dX2_readJoined_2 : decode cX2_readJoined 2 = .ok (.iload_n 2, 1) := by decide +kernel
theorem dX2_readJoined_3 : decode cX2_readJoined 3 = .ok (.invokevirtual 70, 3) := by decide +kernel
theorem dX2_readJoined_6 : decode cX2_readJoined 6 = .ok (.iconst 0, 1) := by decide +kernel
theorem dX2_readJoined_7 : decode cX2_readJoined 7 = .ok (.istore_n 3, 1) := by decide +kernel
theorem dX2_readJoined_8 : decode cX2_readJoined 8 = .ok (.iload_n 3, 1) := by decide +kernel
theorem dX2_readJoined_9 : decode cX2_readJoined 9 = .ok (.aload_n 0, 1) := by decide +kernel
theorem dX2_readJoined_10 : decode cX2_readJoined 10 = .ok (.getfield 34, 3) := by decide +kernel
theorem dX2_readJoined_13 : decode cX2_readJoined 13 = .ok (.if_icmp .ge 55, 3) := by decide +kernel
theorem dX2_readJoined_16 : decode cX2_readJoined 16 = .ok (.iload_n 1, 1) := by decide +kernel
theorem dX2_readJoined_17 : decode cX2_readJoined 17 = .ok (.aload_n 0, 1) := by decide +kernel
theorem dX2_readJoined_18 : decode cX2_readJoined 18 = .ok (.invokevirtual 73, 3) := by decide +kernel
theorem dX2_readJoined_21 : decode cX2_readJoined 21 = .ok (.invokestatic 77, 3) := by decide +kernel
theorem dX2_readJoined_24 : decode cX2_readJoined 24 = .ok (.ifCond .eq 44, 3) := by decide +kernel
theorem dX2_readJoined_27 : decode cX2_readJoined 27 = .ok (.aload_n 0, 1) := by decide +kernel
theorem dX2_readJoined_28 : decode cX2_readJoined 28 = .ok (.invokevirtual 73, 3) := by decide +kernel
theorem dX2_readJoined_31 : decode cX2_readJoined 31 = .ok (.istore 4, 2) := by decide +kernel
theorem dX2_readJoined_33 : decode cX2_readJoined 33 = .ok (.aload_n 0, 1) := by decide +kernel
theorem dX2_readJoined_34 : decode cX2_readJoined 34 = .ok (.dup, 1) := by decide +kernel
theorem dX2_readJoined_35 : decode cX2_readJoined 35 = .ok (.getfield 43, 3) := by decide +kernel
theorem dX2_readJoined_38 : decode cX2_readJoined 38 = .ok (.iconst 1, 1) := by decide +kernel
theorem dX2_readJoined_39 : decode cX2_readJoined 39 = .ok (.iadd, 1) := by decide +kernel
theorem dX2_readJoined_40 : decode cX2_readJoined 40 = .ok (.putfield 43, 3) := by decide +kernel
theorem dX2_readJoined_43 : decode cX2_readJoined 43 = .ok (.aload_n 0, 1) := by decide +kernel
theorem dX2_readJoined_44 : decode cX2_readJoined 44 = .ok (.iload_n 1, 1) := by decide +kernel
theorem dX2_readJoined_45 : decode cX2_readJoined 45 = .ok (.iload_n 2, 1) := by decide +kernel
theorem dX2_readJoined_46 : decode cX2_readJoined 46 = .ok (.invokevirtual 70, 3) := by decide +kernel
theorem dX2_readJoined_49 : decode cX2_readJoined 49 = .ok (.aload_n 0, 1) := by decide +kernel
theorem dX2_readJoined_50 : decode cX2_readJoined 50 = .ok (.iload 4, 2) := by decide +kernel
theorem dX2_readJoined_52 : decode cX2_readJoined 52 = .ok (.ineg, 1) := by decide +kernel
theorem dX2_readJoined_53 : decode cX2_readJoined 53 = .ok (.invokevirtual 66, 3) := by decide +kernel
theorem dX2_readJoined_56 : decode cX2_readJoined 56 = .ok (.iload_n 1, 1) := by decide +kernel
theorem dX2_readJoined_57 : decode cX2_readJoined 57 = .ok (.iconst 2, 1) := by decide +kernel
theorem dX2_readJoined_58 : decode cX2_readJoined 58 = .ok (.if_icmp .ne 4, 3) := by decide +kernel
theorem dX2_readJoined_61 : decode cX2_readJoined 61 = .ok (.return_, 1) := by decide +kernel
theorem dX2_readJoined_62 : decode cX2_readJoined 62 = .ok (.iinc 3 1, 3) := by decide +kernel
theorem dX2_readJoined_65 : decode cX2_readJoined 65 = .ok (.goto (-57), 3) := by decide +kernel
theorem dX2_readJoined_68 : decode cX2_readJoined 68 = .ok (.return_, 1) := by decide +kernel
theorem dX2_readTighter_0 : decode cX2_readTighter 0 = .ok (.iload_n 1, 1) := by decide +kernel
theorem dX2_readTighter_1 : decode cX2_readTighter 1 = .ok (.iconst 4, 1) := by decide +kernel
theorem dX2_readTighter_2 : decode cX2_readTighter 2 = .ok (.if_icmp .ge 14, 3) := by decide +kernel
theorem dX2_readTighter_5 : decode cX2_readTighter 5 = .ok (.aload_n 0, 1) := by decide +kernel
theorem dX2_readTighter_6 : decode cX2_readTighter 6 = .ok (.iload_n 1, 1) := by decide +kernel
theorem dX2_readTighter_7 : decode cX2_readTighter 7 = .ok (.iconst 1, 1) := by decide +kernel
theorem dX2_readTighter_8 : decode cX2_readTighter 8 = .ok (.iadd, 1) := by decide +kernel
theorem dX2_readTighter_9 : decode cX2_readTighter 9 = .ok (.iload_n 2, 1) := by decide +kernel
theorem dX2_readTighter_10 : decode cX2_readTighter 10 = .ok (.invokevirtual 62, 3) := by decide +kernel
theorem dX2_readTighter_13 : decode cX2_readTighter 13 = .ok (.goto 8, 3) := by decide +kernel
theorem dX2_readTighter_16 : decode cX2_readTighter 16 = .ok (.aload_n 0, 1) := by decide +kernel
theorem dX2_readTighter_17 : decode cX2_readTighter 17 = .ok (.iload_n 2, 1) := by decide +kernel
theorem dX2_readTighter_18 : decode cX2_readTighter 18 = .ok (.invokevirtual 81, 3) := by decide +kernel
theorem dX2_readTighter_21 : decode cX2_readTighter 21 = .ok (.return_, 1) := by decide +kernel
theorem dX2_joins_0 : decode cX2_joins 0 = .ok (.iload_n 0, 1) := by decide +kernel
theorem dX2_joins_1 : decode cX2_joins 1 = .ok (.tableswitch 97 0 3 #[31, 43, 55, 79], 31) := by decide +kernel
theorem dX2_joins_32 : decode cX2_joins 32 = .ok (.iload_n 1, 1) := by decide +kernel
theorem dX2_joins_33 : decode cX2_joins 33 = .ok (.bipush 124, 2) := by decide +kernel
theorem dX2_joins_35 : decode cX2_joins 35 = .ok (.if_icmp .ne 7, 3) := by decide +kernel
theorem dX2_joins_38 : decode cX2_joins 38 = .ok (.iconst 1, 1) := by decide +kernel
theorem dX2_joins_39 : decode cX2_joins 39 = .ok (.goto 4, 3) := by decide +kernel
theorem dX2_joins_42 : decode cX2_joins 42 = .ok (.iconst 0, 1) := by decide +kernel
theorem dX2_joins_43 : decode cX2_joins 43 = .ok (.ireturn, 1) := by decide +kernel
theorem dX2_joins_44 : decode cX2_joins 44 = .ok (.iload_n 1, 1) := by decide +kernel
theorem dX2_joins_45 : decode cX2_joins 45 = .ok (.bipush 38, 2) := by decide +kernel
theorem dX2_joins_47 : decode cX2_joins 47 = .ok (.if_icmp .ne 7, 3) := by decide +kernel
theorem dX2_joins_50 : decode cX2_joins 50 = .ok (.iconst 1, 1) := by decide +kernel
theorem dX2_joins_51 : decode cX2_joins 51 = .ok (.goto 4, 3) := by decide +kernel
theorem dX2_joins_54 : decode cX2_joins 54 = .ok (.iconst 0, 1) := by decide +kernel
theorem dX2_joins_55 : decode cX2_joins 55 = .ok (.ireturn, 1) := by decide +kernel
theorem dX2_joins_56 : decode cX2_joins 56 = .ok (.iload_n 1, 1) := by decide +kernel
theorem dX2_joins_57 : decode cX2_joins 57 = .ok (.bipush 60, 2) := by decide +kernel
theorem dX2_joins_59 : decode cX2_joins 59 = .ok (.if_icmp .eq 15, 3) := by decide +kernel
theorem dX2_joins_62 : decode cX2_joins 62 = .ok (.iload_n 1, 1) := by decide +kernel
theorem dX2_joins_63 : decode cX2_joins 63 = .ok (.bipush 61, 2) := by decide +kernel
theorem dX2_joins_65 : decode cX2_joins 65 = .ok (.if_icmp .eq 9, 3) := by decide +kernel
theorem dX2_joins_68 : decode cX2_joins 68 = .ok (.iload_n 1, 1) := by decide +kernel
theorem dX2_joins_69 : decode cX2_joins 69 = .ok (.bipush 62, 2) := by decide +kernel
theorem dX2_joins_71 : decode cX2_joins 71 = .ok (.if_icmp .ne 7, 3) := by decide +kernel
theorem dX2_joins_74 : decode cX2_joins 74 = .ok (.iconst 1, 1) := by decide +kernel
theorem dX2_joins_75 : decode cX2_joins 75 = .ok (.goto 4, 3) := by decide +kernel
theorem dX2_joins_78 : decode cX2_joins 78 = .ok (.iconst 0, 1) := by decide +kernel
theorem dX2_joins_79 : decode cX2_joins 79 = .ok (.ireturn, 1) := by decide +kernel
theorem dX2_joins_80 : decode cX2_joins 80 = .ok (.iload_n 1, 1) := by decide +kernel
theorem dX2_joins_81 : decode cX2_joins 81 = .ok (.bipush 43, 2) := by decide +kernel
theorem dX2_joins_83 : decode cX2_joins 83 = .ok (.if_icmp .eq 9, 3) := by decide +kernel
theorem dX2_joins_86 : decode cX2_joins 86 = .ok (.iload_n 1, 1) := by decide +kernel
theorem dX2_joins_87 : decode cX2_joins 87 = .ok (.bipush 45, 2) := by decide +kernel
theorem dX2_joins_89 : decode cX2_joins 89 = .ok (.if_icmp .ne 7, 3) := by decide +kernel
theorem dX2_joins_92 : decode cX2_joins 92 = .ok (.iconst 1, 1) := by decide +kernel
theorem dX2_joins_93 : decode cX2_joins 93 = .ok (.goto 4, 3) := by decide +kernel
theorem dX2_joins_96 : decode cX2_joins 96 = .ok (.iconst 0, 1) := by decide +kernel
theorem dX2_joins_97 : decode cX2_joins 97 = .ok (.ireturn, 1) := by decide +kernel
theorem dX2_joins_98 : decode cX2_joins 98 = .ok (.iload_n 1, 1) := by decide +kernel
theorem dX2_joins_99 : decode cX2_joins 99 = .ok (.bipush 42, 2) := by decide +kernel
theorem dX2_joins_101 : decode cX2_joins 101 = .ok (.if_icmp .eq 15, 3) := by decide +kernel
theorem dX2_joins_104 : decode cX2_joins 104 = .ok (.iload_n 1, 1) := by decide +kernel
theorem dX2_joins_105 : decode cX2_joins 105 = .ok (.bipush 47, 2) := by decide +kernel
theorem dX2_joins_107 : decode cX2_joins 107 = .ok (.if_icmp .eq 9, 3) := by decide +kernel
theorem dX2_joins_110 : decode cX2_joins 110 = .ok (.iload_n 1, 1) := by decide +kernel
theorem dX2_joins_111 : decode cX2_joins 111 = .ok (.bipush 37, 2) := by decide +kernel
theorem dX2_joins_113 : decode cX2_joins 113 = .ok (.if_icmp .ne 7, 3) := by decide +kernel
theorem dX2_joins_116 : decode cX2_joins 116 = .ok (.iconst 1, 1) := by decide +kernel
theorem dX2_joins_117 : decode cX2_joins 117 = .ok (.goto 4, 3) := by decide +kernel
theorem dX2_joins_120 : decode cX2_joins 120 = .ok (.iconst 0, 1) := by decide +kernel
theorem dX2_joins_121 : decode cX2_joins 121 = .ok (.ireturn, 1) := by decide +kernel
theorem dX2_readOperand_0 : decode cX2_readOperand 0 = .ok (.aload_n 0, 1) := by decide +kernel
theorem dX2_readOperand_1 : decode cX2_readOperand 1 = .ok (.invokevirtual 73, 3) := by decide +kernel
theorem dX2_readOperand_4 : decode cX2_readOperand 4 = .ok (.istore_n 2, 1) := by decide +kernel
theorem dX2_readOperand_5 : decode cX2_readOperand 5 = .ok (.iload_n 2, 1) := by decide +kernel
theorem dX2_readOperand_6 : decode cX2_readOperand 6 = .ok (.invokestatic 84, 3) := by decide +kernel
theorem dX2_readOperand_9 : decode cX2_readOperand 9 = .ok (.ifCond .eq 10, 3) := by decide +kernel
theorem dX2_readOperand_12 : decode cX2_readOperand 12 = .ok (.aload_n 0, 1) := by decide +kernel
theorem dX2_readOperand_13 : decode cX2_readOperand 13 = .ok (.invokevirtual 87, 3) := by decide +kernel
theorem dX2_readOperand_16 : decode cX2_readOperand 16 = .ok (.goto 140, 3) := by decide +kernel
theorem dX2_readOperand_19 : decode cX2_readOperand 19 = .ok (.iload_n 2, 1) := by decide +kernel
theorem dX2_readOperand_20 : decode cX2_readOperand 20 = .ok (.bipush 97, 2) := by decide +kernel
theorem dX2_readOperand_22 : decode cX2_readOperand 22 = .ok (.if_icmp .eq 27, 3) := by decide +kernel
theorem dX2_readOperand_25 : decode cX2_readOperand 25 = .ok (.iload_n 2, 1) := by decide +kernel
theorem dX2_readOperand_26 : decode cX2_readOperand 26 = .ok (.bipush 98, 2) := by decide +kernel
theorem dX2_readOperand_28 : decode cX2_readOperand 28 = .ok (.if_icmp .eq 21, 3) := by decide +kernel
theorem dX2_readOperand_31 : decode cX2_readOperand 31 = .ok (.iload_n 2, 1) := by decide +kernel
theorem dX2_readOperand_32 : decode cX2_readOperand 32 = .ok (.bipush 110, 2) := by decide +kernel
theorem dX2_readOperand_34 : decode cX2_readOperand 34 = .ok (.if_icmp .eq 15, 3) := by decide +kernel
theorem dX2_readOperand_37 : decode cX2_readOperand 37 = .ok (.iload_n 2, 1) := by decide +kernel
theorem dX2_readOperand_38 : decode cX2_readOperand 38 = .ok (.bipush 109, 2) := by decide +kernel
theorem dX2_readOperand_40 : decode cX2_readOperand 40 = .ok (.if_icmp .eq 9, 3) := by decide +kernel
theorem dX2_readOperand_43 : decode cX2_readOperand 43 = .ok (.iload_n 2, 1) := by decide +kernel
theorem dX2_readOperand_44 : decode cX2_readOperand 44 = .ok (.bipush 115, 2) := by decide +kernel
theorem dX2_readOperand_46 : decode cX2_readOperand 46 = .ok (.if_icmp .ne 22, 3) := by decide +kernel
theorem dX2_readOperand_49 : decode cX2_readOperand 49 = .ok (.aload_n 0, 1) := by decide +kernel
theorem dX2_readOperand_50 : decode cX2_readOperand 50 = .ok (.dup, 1) := by decide +kernel
theorem dX2_readOperand_51 : decode cX2_readOperand 51 = .ok (.getfield 43, 3) := by decide +kernel
theorem dX2_readOperand_54 : decode cX2_readOperand 54 = .ok (.iconst 1, 1) := by decide +kernel
theorem dX2_readOperand_55 : decode cX2_readOperand 55 = .ok (.iadd, 1) := by decide +kernel
theorem dX2_readOperand_56 : decode cX2_readOperand 56 = .ok (.putfield 43, 3) := by decide +kernel
theorem dX2_readOperand_59 : decode cX2_readOperand 59 = .ok (.aload_n 0, 1) := by decide +kernel
theorem dX2_readOperand_60 : decode cX2_readOperand 60 = .ok (.iload_n 2, 1) := by decide +kernel
theorem dX2_readOperand_61 : decode cX2_readOperand 61 = .ok (.ineg, 1) := by decide +kernel
theorem dX2_readOperand_62 : decode cX2_readOperand 62 = .ok (.invokevirtual 66, 3) := by decide +kernel
theorem dX2_readOperand_65 : decode cX2_readOperand 65 = .ok (.goto 91, 3) := by decide +kernel
theorem dX2_readOperand_68 : decode cX2_readOperand 68 = .ok (.iload_n 1, 1) := by decide +kernel
theorem dX2_readOperand_69 : decode cX2_readOperand 69 = .ok (.bipush 6, 2) := by decide +kernel
theorem dX2_readOperand_71 : decode cX2_readOperand 71 = .ok (.if_icmp .lt 10, 3) := by decide +kernel
theorem dX2_readOperand_74 : decode cX2_readOperand 74 = .ok (.aload_n 0, 1) := by decide +kernel
theorem dX2_readOperand_75 : decode cX2_readOperand 75 = .ok (.invokevirtual 59, 3) := by decide +kernel
theorem dX2_readOperand_78 : decode cX2_readOperand 78 = .ok (.goto 78, 3) := by decide +kernel
theorem dX2_readOperand_81 : decode cX2_readOperand 81 = .ok (.aload_n 0, 1) := by decide +kernel
theorem dX2_readOperand_82 : decode cX2_readOperand 82 = .ok (.bipush 40, 2) := by decide +kernel
theorem dX2_readOperand_84 : decode cX2_readOperand 84 = .ok (.invokevirtual 55, 3) := by decide +kernel
theorem dX2_readOperand_87 : decode cX2_readOperand 87 = .ok (.ifCond .eq 27, 3) := by decide +kernel
theorem dX2_readOperand_90 : decode cX2_readOperand 90 = .ok (.aload_n 0, 1) := by decide +kernel
theorem dX2_readOperand_91 : decode cX2_readOperand 91 = .ok (.iconst 0, 1) := by decide +kernel
theorem dX2_readOperand_92 : decode cX2_readOperand 92 = .ok (.iload_n 1, 1) := by decide +kernel
theorem dX2_readOperand_93 : decode cX2_readOperand 93 = .ok (.iconst 1, 1) := by decide +kernel
theorem dX2_readOperand_94 : decode cX2_readOperand 94 = .ok (.iadd, 1) := by decide +kernel
theorem dX2_readOperand_95 : decode cX2_readOperand 95 = .ok (.invokevirtual 62, 3) := by decide +kernel
theorem dX2_readOperand_98 : decode cX2_readOperand 98 = .ok (.aload_n 0, 1) := by decide +kernel
theorem dX2_readOperand_99 : decode cX2_readOperand 99 = .ok (.bipush 41, 2) := by decide +kernel
theorem dX2_readOperand_101 : decode cX2_readOperand 101 = .ok (.invokevirtual 55, 3) := by decide +kernel
theorem dX2_readOperand_104 : decode cX2_readOperand 104 = .ok (.ifCond .ne 52, 3) := by decide +kernel
theorem dX2_readOperand_107 : decode cX2_readOperand 107 = .ok (.aload_n 0, 1) := by decide +kernel
theorem dX2_readOperand_108 : decode cX2_readOperand 108 = .ok (.invokevirtual 59, 3) := by decide +kernel
theorem dX2_readOperand_111 : decode cX2_readOperand 111 = .ok (.goto 45, 3) := by decide +kernel
theorem dX2_readOperand_114 : decode cX2_readOperand 114 = .ok (.aload_n 0, 1) := by decide +kernel
theorem dX2_readOperand_115 : decode cX2_readOperand 115 = .ok (.bipush 33, 2) := by decide +kernel
theorem dX2_readOperand_117 : decode cX2_readOperand 117 = .ok (.invokevirtual 55, 3) := by decide +kernel
theorem dX2_readOperand_120 : decode cX2_readOperand 120 = .ok (.ifCond .eq 13, 3) := by decide +kernel
theorem dX2_readOperand_123 : decode cX2_readOperand 123 = .ok (.aload_n 0, 1) := by decide +kernel
theorem dX2_readOperand_124 : decode cX2_readOperand 124 = .ok (.bipush 33, 2) := by decide +kernel
theorem dX2_readOperand_126 : decode cX2_readOperand 126 = .ok (.iload_n 1, 1) := by decide +kernel
theorem dX2_readOperand_127 : decode cX2_readOperand 127 = .ok (.invokevirtual 90, 3) := by decide +kernel
theorem dX2_readOperand_130 : decode cX2_readOperand 130 = .ok (.goto 26, 3) := by decide +kernel
theorem dX2_readOperand_133 : decode cX2_readOperand 133 = .ok (.aload_n 0, 1) := by decide +kernel
theorem dX2_readOperand_134 : decode cX2_readOperand 134 = .ok (.bipush 45, 2) := by decide +kernel
theorem dX2_readOperand_136 : decode cX2_readOperand 136 = .ok (.invokevirtual 55, 3) := by decide +kernel
theorem dX2_readOperand_139 : decode cX2_readOperand 139 = .ok (.ifCond .eq 13, 3) := by decide +kernel
theorem dX2_readOperand_142 : decode cX2_readOperand 142 = .ok (.aload_n 0, 1) := by decide +kernel
theorem dX2_readOperand_143 : decode cX2_readOperand 143 = .ok (.bipush 95, 2) := by decide +kernel
theorem dX2_readOperand_145 : decode cX2_readOperand 145 = .ok (.iload_n 1, 1) := by decide +kernel
theorem dX2_readOperand_146 : decode cX2_readOperand 146 = .ok (.invokevirtual 90, 3) := by decide +kernel
theorem dX2_readOperand_149 : decode cX2_readOperand 149 = .ok (.goto 7, 3) := by decide +kernel
theorem dX2_readOperand_152 : decode cX2_readOperand 152 = .ok (.aload_n 0, 1) := by decide +kernel
theorem dX2_readOperand_153 : decode cX2_readOperand 153 = .ok (.invokevirtual 59, 3) := by decide +kernel
theorem dX2_readOperand_156 : decode cX2_readOperand 156 = .ok (.return_, 1) := by decide +kernel
theorem dX2_readBehind_0 : decode cX2_readBehind 0 = .ok (.aload_n 0, 1) := by decide +kernel
theorem dX2_readBehind_1 : decode cX2_readBehind 1 = .ok (.iload_n 2, 1) := by decide +kernel
theorem dX2_readBehind_2 : decode cX2_readBehind 2 = .ok (.iconst 1, 1) := by decide +kernel
theorem dX2_readBehind_3 : decode cX2_readBehind 3 = .ok (.iadd, 1) := by decide +kernel
theorem dX2_readBehind_4 : decode cX2_readBehind 4 = .ok (.invokevirtual 81, 3) := by decide +kernel
theorem dX2_readBehind_7 : decode cX2_readBehind 7 = .ok (.aload_n 0, 1) := by decide +kernel
theorem dX2_readBehind_8 : decode cX2_readBehind 8 = .ok (.iload_n 1, 1) := by decide +kernel
theorem dX2_readBehind_9 : decode cX2_readBehind 9 = .ok (.ineg, 1) := by decide +kernel
theorem dX2_readBehind_10 : decode cX2_readBehind 10 = .ok (.invokevirtual 66, 3) := by decide +kernel
theorem dX2_readBehind_13 : decode cX2_readBehind 13 = .ok (.return_, 1) := by decide +kernel
theorem dX2_readNumber_0 : decode cX2_readNumber 0 = .ok (.iconst 0, 1) := by decide +kernel
theorem dX2_readNumber_1 : decode cX2_readNumber 1 = .ok (.istore_n 1, 1) := by decide +kernel
theorem dX2_readNumber_2 : decode cX2_readNumber 2 = .ok (.iconst 0, 1) := by decide +kernel
theorem dX2_readNumber_3 : decode cX2_readNumber 3 = .ok (.istore_n 2, 1) := by decide +kernel
theorem dX2_readNumber_4 : decode cX2_readNumber 4 = .ok (.iload_n 2, 1) := by decide +kernel
theorem dX2_readNumber_5 : decode cX2_readNumber 5 = .ok (.iconst 4, 1) := by decide +kernel
theorem dX2_readNumber_6 : decode cX2_readNumber 6 = .ok (.if_icmp .ge 42, 3) := by decide +kernel
theorem dX2_readNumber_9 : decode cX2_readNumber 9 = .ok (.aload_n 0, 1) := by decide +kernel
theorem dX2_readNumber_10 : decode cX2_readNumber 10 = .ok (.invokevirtual 73, 3) := by decide +kernel
theorem dX2_readNumber_13 : decode cX2_readNumber 13 = .ok (.invokestatic 84, 3) := by decide +kernel
theorem dX2_readNumber_16 : decode cX2_readNumber 16 = .ok (.ifCond .eq 32, 3) := by decide +kernel
theorem dX2_readNumber_19 : decode cX2_readNumber 19 = .ok (.iload_n 1, 1) := by decide +kernel
theorem dX2_readNumber_20 : decode cX2_readNumber 20 = .ok (.bipush 10, 2) := by decide +kernel
theorem dX2_readNumber_22 : decode cX2_readNumber 22 = .ok (.imul, 1) := by decide +kernel
theorem dX2_readNumber_23 : decode cX2_readNumber 23 = .ok (.aload_n 0, 1) := by decide +kernel
theorem dX2_readNumber_24 : decode cX2_readNumber 24 = .ok (.invokevirtual 73, 3) := by decide +kernel
theorem dX2_readNumber_27 : decode cX2_readNumber 27 = .ok (.iadd, 1) := by decide +kernel
theorem dX2_readNumber_28 : decode cX2_readNumber 28 = .ok (.bipush 48, 2) := by decide +kernel
theorem dX2_readNumber_30 : decode cX2_readNumber 30 = .ok (.isub, 1) := by decide +kernel
theorem dX2_readNumber_31 : decode cX2_readNumber 31 = .ok (.istore_n 1, 1) := by decide +kernel
theorem dX2_readNumber_32 : decode cX2_readNumber 32 = .ok (.aload_n 0, 1) := by decide +kernel
theorem dX2_readNumber_33 : decode cX2_readNumber 33 = .ok (.dup, 1) := by decide +kernel
theorem dX2_readNumber_34 : decode cX2_readNumber 34 = .ok (.getfield 43, 3) := by decide +kernel
theorem dX2_readNumber_37 : decode cX2_readNumber 37 = .ok (.iconst 1, 1) := by decide +kernel
theorem dX2_readNumber_38 : decode cX2_readNumber 38 = .ok (.iadd, 1) := by decide +kernel
theorem dX2_readNumber_39 : decode cX2_readNumber 39 = .ok (.putfield 43, 3) := by decide +kernel
theorem dX2_readNumber_42 : decode cX2_readNumber 42 = .ok (.iinc 2 1, 3) := by decide +kernel
theorem dX2_readNumber_45 : decode cX2_readNumber 45 = .ok (.goto (-41), 3) := by decide +kernel
theorem dX2_readNumber_48 : decode cX2_readNumber 48 = .ok (.aload_n 0, 1) := by decide +kernel
theorem dX2_readNumber_49 : decode cX2_readNumber 49 = .ok (.iload_n 1, 1) := by decide +kernel
theorem dX2_readNumber_50 : decode cX2_readNumber 50 = .ok (.invokevirtual 66, 3) := by decide +kernel
theorem dX2_readNumber_53 : decode cX2_readNumber 53 = .ok (.return_, 1) := by decide +kernel
theorem dX2_isDigit_0 : decode cX2_isDigit 0 = .ok (.iload_n 0, 1) := by decide +kernel
theorem dX2_isDigit_1 : decode cX2_isDigit 1 = .ok (.bipush 48, 2) := by decide +kernel
theorem dX2_isDigit_3 : decode cX2_isDigit 3 = .ok (.if_icmp .lt 13, 3) := by decide +kernel
theorem dX2_isDigit_6 : decode cX2_isDigit 6 = .ok (.iload_n 0, 1) := by decide +kernel
theorem dX2_isDigit_7 : decode cX2_isDigit 7 = .ok (.bipush 57, 2) := by decide +kernel
theorem dX2_isDigit_9 : decode cX2_isDigit 9 = .ok (.if_icmp .gt 7, 3) := by decide +kernel
theorem dX2_isDigit_12 : decode cX2_isDigit 12 = .ok (.iconst 1, 1) := by decide +kernel
theorem dX2_isDigit_13 : decode cX2_isDigit 13 = .ok (.goto 4, 3) := by decide +kernel
theorem dX2_isDigit_16 : decode cX2_isDigit 16 = .ok (.iconst 0, 1) := by decide +kernel
theorem dX2_isDigit_17 : decode cX2_isDigit 17 = .ok (.ireturn, 1) := by decide +kernel
theorem dX2_sign_0 : decode cX2_sign 0 = .ok (.aload_n 0, 1) := by decide +kernel
theorem dX2_sign_1 : decode cX2_sign 1 = .ok (.getfield 46, 3) := by decide +kernel
theorem dX2_sign_4 : decode cX2_sign 4 = .ok (.ifCond .ge 26, 3) := by decide +kernel
theorem dX2_sign_7 : decode cX2_sign 7 = .ok (.aload_n 0, 1) := by decide +kernel
theorem dX2_sign_8 : decode cX2_sign 8 = .ok (.getfield 43, 3) := by decide +kernel
theorem dX2_sign_11 : decode cX2_sign 11 = .ok (.aload_n 0, 1) := by decide +kernel
theorem dX2_sign_12 : decode cX2_sign 12 = .ok (.getfield 34, 3) := by decide +kernel
theorem dX2_sign_15 : decode cX2_sign 15 = .ok (.if_icmp .ge 15, 3) := by decide +kernel
theorem dX2_sign_18 : decode cX2_sign 18 = .ok (.aload_n 0, 1) := by decide +kernel
theorem dX2_sign_19 : decode cX2_sign 19 = .ok (.getfield 18, 3) := by decide +kernel
theorem dX2_sign_22 : decode cX2_sign 22 = .ok (.aload_n 0, 1) := by decide +kernel
theorem dX2_sign_23 : decode cX2_sign 23 = .ok (.getfield 43, 3) := by decide +kernel
theorem dX2_sign_26 : decode cX2_sign 26 = .ok (.iaload, 1) := by decide +kernel
theorem dX2_sign_27 : decode cX2_sign 27 = .ok (.goto 4, 3) := by decide +kernel
theorem dX2_sign_30 : decode cX2_sign 30 = .ok (.iconst (-1), 1) := by decide +kernel
theorem dX2_sign_31 : decode cX2_sign 31 = .ok (.ireturn, 1) := by decide +kernel
theorem dX2_takes_0 : decode cX2_takes 0 = .ok (.aload_n 0, 1) := by decide +kernel
theorem dX2_takes_1 : decode cX2_takes 1 = .ok (.invokevirtual 73, 3) := by decide +kernel
theorem dX2_takes_4 : decode cX2_takes 4 = .ok (.iload_n 1, 1) := by decide +kernel
theorem dX2_takes_5 : decode cX2_takes 5 = .ok (.if_icmp .eq 5, 3) := by decide +kernel
theorem dX2_takes_8 : decode cX2_takes 8 = .ok (.iconst 0, 1) := by decide +kernel
theorem dX2_takes_9 : decode cX2_takes 9 = .ok (.ireturn, 1) := by decide +kernel
theorem dX2_takes_10 : decode cX2_takes 10 = .ok (.aload_n 0, 1) := by decide +kernel
theorem dX2_takes_11 : decode cX2_takes 11 = .ok (.dup, 1) := by decide +kernel
theorem dX2_takes_12 : decode cX2_takes 12 = .ok (.getfield 43, 3) := by decide +kernel
theorem dX2_takes_15 : decode cX2_takes 15 = .ok (.iconst 1, 1) := by decide +kernel
theorem dX2_takes_16 : decode cX2_takes 16 = .ok (.iadd, 1) := by decide +kernel
theorem dX2_takes_17 : decode cX2_takes 17 = .ok (.putfield 43, 3) := by decide +kernel
theorem dX2_takes_20 : decode cX2_takes 20 = .ok (.iconst 1, 1) := by decide +kernel
theorem dX2_takes_21 : decode cX2_takes 21 = .ok (.ireturn, 1) := by decide +kernel
theorem dX2_fail_0 : decode cX2_fail 0 = .ok (.aload_n 0, 1) := by decide +kernel
theorem dX2_fail_1 : decode cX2_fail 1 = .ok (.getfield 46, 3) := by decide +kernel
theorem dX2_fail_4 : decode cX2_fail 4 = .ok (.ifCond .ge 11, 3) := by decide +kernel
theorem dX2_fail_7 : decode cX2_fail 7 = .ok (.aload_n 0, 1) := by decide +kernel
theorem dX2_fail_8 : decode cX2_fail 8 = .ok (.aload_n 0, 1) := by decide +kernel
theorem dX2_fail_9 : decode cX2_fail 9 = .ok (.getfield 43, 3) := by decide +kernel
theorem dX2_fail_12 : decode cX2_fail 12 = .ok (.putfield 46, 3) := by decide +kernel
theorem dX2_fail_15 : decode cX2_fail 15 = .ok (.return_, 1) := by decide +kernel
theorem dX2_emit_0 : decode cX2_emit 0 = .ok (.aload_n 0, 1) := by decide +kernel
theorem dX2_emit_1 : decode cX2_emit 1 = .ok (.getfield 49, 3) := by decide +kernel
theorem dX2_emit_4 : decode cX2_emit 4 = .ok (.aload_n 0, 1) := by decide +kernel
theorem dX2_emit_5 : decode cX2_emit 5 = .ok (.getfield 15, 3) := by decide +kernel
theorem dX2_emit_8 : decode cX2_emit 8 = .ok (.arraylength, 1) := by decide +kernel
theorem dX2_emit_9 : decode cX2_emit 9 = .ok (.if_icmp .ge 23, 3) := by decide +kernel
theorem dX2_emit_12 : decode cX2_emit 12 = .ok (.aload_n 0, 1) := by decide +kernel
theorem dX2_emit_13 : decode cX2_emit 13 = .ok (.getfield 15, 3) := by decide +kernel
theorem dX2_emit_16 : decode cX2_emit 16 = .ok (.aload_n 0, 1) := by decide +kernel
theorem dX2_emit_17 : decode cX2_emit 17 = .ok (.getfield 49, 3) := by decide +kernel
theorem dX2_emit_20 : decode cX2_emit 20 = .ok (.iload_n 1, 1) := by decide +kernel
theorem dX2_emit_21 : decode cX2_emit 21 = .ok (.iastore, 1) := by decide +kernel
theorem dX2_emit_22 : decode cX2_emit 22 = .ok (.aload_n 0, 1) := by decide +kernel
theorem dX2_emit_23 : decode cX2_emit 23 = .ok (.dup, 1) := by decide +kernel
theorem dX2_emit_24 : decode cX2_emit 24 = .ok (.getfield 49, 3) := by decide +kernel
theorem dX2_emit_27 : decode cX2_emit 27 = .ok (.iconst 1, 1) := by decide +kernel
theorem dX2_emit_28 : decode cX2_emit 28 = .ok (.iadd, 1) := by decide +kernel
theorem dX2_emit_29 : decode cX2_emit 29 = .ok (.putfield 49, 3) := by decide +kernel
theorem dX2_emit_32 : decode cX2_emit 32 = .ok (.return_, 1) := by decide +kernel
theorem dX2_valueFor_0 : decode cX2_valueFor 0 = .ok (.aload_n 0, 1) := by decide +kernel
theorem dX2_valueFor_1 : decode cX2_valueFor 1 = .ok (.aload_n 1, 1) := by decide +kernel
theorem dX2_valueFor_2 : decode cX2_valueFor 2 = .ok (.iload_n 2, 1) := by decide +kernel
theorem dX2_valueFor_3 : decode cX2_valueFor 3 = .ok (.iload_n 3, 1) := by decide +kernel
theorem dX2_valueFor_4 : decode cX2_valueFor 4 = .ok (.invokevirtual 93, 3) := by decide +kernel
theorem dX2_valueFor_7 : decode cX2_valueFor 7 = .ok (.putfield 98, 3) := by decide +kernel
theorem dX2_valueFor_10 : decode cX2_valueFor 10 = .ok (.aload_n 0, 1) := by decide +kernel
theorem dX2_valueFor_11 : decode cX2_valueFor 11 = .ok (.aload_n 1, 1) := by decide +kernel
theorem dX2_valueFor_12 : decode cX2_valueFor 12 = .ok (.iload_n 2, 1) := by decide +kernel
theorem dX2_valueFor_13 : decode cX2_valueFor 13 = .ok (.iconst 1, 1) := by decide +kernel
theorem dX2_valueFor_14 : decode cX2_valueFor 14 = .ok (.iload_n 3, 1) := by decide +kernel
theorem dX2_valueFor_15 : decode cX2_valueFor 15 = .ok (.isub, 1) := by decide +kernel
theorem dX2_valueFor_16 : decode cX2_valueFor 16 = .ok (.invokevirtual 93, 3) := by decide +kernel
theorem dX2_valueFor_19 : decode cX2_valueFor 19 = .ok (.putfield 101, 3) := by decide +kernel
theorem dX2_valueFor_22 : decode cX2_valueFor 22 = .ok (.aload_n 0, 1) := by decide +kernel
theorem dX2_valueFor_23 : decode cX2_valueFor 23 = .ok (.iload_n 2, 1) := by decide +kernel
theorem dX2_valueFor_24 : decode cX2_valueFor 24 = .ok (.putfield 104, 3) := by decide +kernel
theorem dX2_valueFor_27 : decode cX2_valueFor 27 = .ok (.aload_n 0, 1) := by decide +kernel
theorem dX2_valueFor_28 : decode cX2_valueFor 28 = .ok (.iload 4, 2) := by decide +kernel
theorem dX2_valueFor_30 : decode cX2_valueFor 30 = .ok (.putfield 107, 3) := by decide +kernel
theorem dX2_valueFor_33 : decode cX2_valueFor 33 = .ok (.aload_n 0, 1) := by decide +kernel
theorem dX2_valueFor_34 : decode cX2_valueFor 34 = .ok (.iload_n 3, 1) := by decide +kernel
theorem dX2_valueFor_35 : decode cX2_valueFor 35 = .ok (.putfield 110, 3) := by decide +kernel
theorem dX2_valueFor_38 : decode cX2_valueFor 38 = .ok (.aload_n 0, 1) := by decide +kernel
theorem dX2_valueFor_39 : decode cX2_valueFor 39 = .ok (.iconst 0, 1) := by decide +kernel
theorem dX2_valueFor_40 : decode cX2_valueFor 40 = .ok (.putfield 113, 3) := by decide +kernel
theorem dX2_valueFor_43 : decode cX2_valueFor 43 = .ok (.iconst 0, 1) := by decide +kernel
theorem dX2_valueFor_44 : decode cX2_valueFor 44 = .ok (.istore 5, 2) := by decide +kernel
theorem dX2_valueFor_46 : decode cX2_valueFor 46 = .ok (.iload 5, 2) := by decide +kernel
theorem dX2_valueFor_48 : decode cX2_valueFor 48 = .ok (.aload_n 0, 1) := by decide +kernel
theorem dX2_valueFor_49 : decode cX2_valueFor 49 = .ok (.getfield 24, 3) := by decide +kernel
theorem dX2_valueFor_52 : decode cX2_valueFor 52 = .ok (.if_icmp .ge 77, 3) := by decide +kernel
theorem dX2_valueFor_55 : decode cX2_valueFor 55 = .ok (.aload_n 0, 1) := by decide +kernel
theorem dX2_valueFor_56 : decode cX2_valueFor 56 = .ok (.getfield 9, 3) := by decide +kernel
theorem dX2_valueFor_59 : decode cX2_valueFor 59 = .ok (.iload 5, 2) := by decide +kernel
theorem dX2_valueFor_61 : decode cX2_valueFor 61 = .ok (.iaload, 1) := by decide +kernel
theorem dX2_valueFor_62 : decode cX2_valueFor 62 = .ok (.istore 6, 2) := by decide +kernel
theorem dX2_valueFor_64 : decode cX2_valueFor 64 = .ok (.iload 6, 2) := by decide +kernel
theorem dX2_valueFor_66 : decode cX2_valueFor 66 = .ok (.ifCond .lt 12, 3) := by decide +kernel
theorem dX2_valueFor_69 : decode cX2_valueFor 69 = .ok (.aload_n 0, 1) := by decide +kernel
theorem dX2_valueFor_70 : decode cX2_valueFor 70 = .ok (.iload 6, 2) := by decide +kernel
theorem dX2_valueFor_72 : decode cX2_valueFor 72 = .ok (.invokevirtual 116, 3) := by decide +kernel
theorem dX2_valueFor_75 : decode cX2_valueFor 75 = .ok (.goto 48, 3) := by decide +kernel
theorem dX2_valueFor_78 : decode cX2_valueFor 78 = .ok (.iload 6, 2) := by decide +kernel
theorem dX2_valueFor_80 : decode cX2_valueFor 80 = .ok (.bipush (-59), 2) := by decide +kernel
theorem dX2_valueFor_82 : decode cX2_valueFor 82 = .ok (.if_icmp .ne 8, 3) := by decide +kernel
theorem dX2_valueFor_85 : decode cX2_valueFor 85 = .ok (.aload_n 0, 1) := by decide +kernel
theorem dX2_valueFor_86 : decode cX2_valueFor 86 = .ok (.invokevirtual 119, 3) := by decide +kernel
theorem dX2_valueFor_89 : decode cX2_valueFor 89 = .ok (.ireturn, 1) := by decide +kernel
theorem dX2_valueFor_90 : decode cX2_valueFor 90 = .ok (.iload 6, 2) := by decide +kernel
theorem dX2_valueFor_92 : decode cX2_valueFor 92 = .ok (.bipush (-63), 2) := by decide +kernel
theorem dX2_valueFor_94 : decode cX2_valueFor 94 = .ok (.if_icmp .ne 22, 3) := by decide +kernel
theorem dX2_valueFor_97 : decode cX2_valueFor 97 = .ok (.aload_n 0, 1) := by decide +kernel
theorem dX2_valueFor_98 : decode cX2_valueFor 98 = .ok (.invokevirtual 119, 3) := by decide +kernel
theorem dX2_valueFor_101 : decode cX2_valueFor 101 = .ok (.istore 7, 2) := by decide +kernel
theorem dX2_valueFor_103 : decode cX2_valueFor 103 = .ok (.aload_n 0, 1) := by decide +kernel
theorem dX2_valueFor_104 : decode cX2_valueFor 104 = .ok (.invokevirtual 119, 3) := by decide +kernel
theorem dX2_valueFor_107 : decode cX2_valueFor 107 = .ok (.ifCond .eq 6, 3) := by decide +kernel
theorem dX2_valueFor_110 : decode cX2_valueFor 110 = .ok (.iload 7, 2) := by decide +kernel
theorem dX2_valueFor_112 : decode cX2_valueFor 112 = .ok (.ireturn, 1) := by decide +kernel
theorem dX2_valueFor_113 : decode cX2_valueFor 113 = .ok (.goto 10, 3) := by decide +kernel
theorem dX2_valueFor_116 : decode cX2_valueFor 116 = .ok (.aload_n 0, 1) := by decide +kernel
theorem dX2_valueFor_117 : decode cX2_valueFor 117 = .ok (.iload 6, 2) := by decide +kernel
theorem dX2_valueFor_119 : decode cX2_valueFor 119 = .ok (.ineg, 1) := by decide +kernel
theorem dX2_valueFor_120 : decode cX2_valueFor 120 = .ok (.invokevirtual 122, 3) := by decide +kernel
theorem dX2_valueFor_123 : decode cX2_valueFor 123 = .ok (.iinc 5 1, 3) := by decide +kernel
theorem dX2_valueFor_126 : decode cX2_valueFor 126 = .ok (.goto (-80), 3) := by decide +kernel
theorem dX2_valueFor_129 : decode cX2_valueFor 129 = .ok (.iconst 0, 1) := by decide +kernel
theorem dX2_valueFor_130 : decode cX2_valueFor 130 = .ok (.ireturn, 1) := by decide +kernel
theorem dX2_workOut_0 : decode cX2_workOut 0 = .ok (.iload_n 1, 1) := by decide +kernel
theorem dX2_workOut_1 : decode cX2_workOut 1 = .ok (.lookupswitch 153 #[(33, 122), (95, 141), (97, 67), (98, 78), (109, 100), (110, 89), (115, 111)], 67) := by decide +kernel
theorem dX2_workOut_68 : decode cX2_workOut 68 = .ok (.aload_n 0, 1) := by decide +kernel
theorem dX2_workOut_69 : decode cX2_workOut 69 = .ok (.aload_n 0, 1) := by decide +kernel
theorem dX2_workOut_70 : decode cX2_workOut 70 = .ok (.getfield 98, 3) := by decide +kernel
theorem dX2_workOut_73 : decode cX2_workOut 73 = .ok (.invokevirtual 116, 3) := by decide +kernel
theorem dX2_workOut_76 : decode cX2_workOut 76 = .ok (.goto 98, 3) := by decide +kernel
theorem dX2_workOut_79 : decode cX2_workOut 79 = .ok (.aload_n 0, 1) := by decide +kernel
theorem dX2_workOut_80 : decode cX2_workOut 80 = .ok (.aload_n 0, 1) := by decide +kernel
theorem dX2_workOut_81 : decode cX2_workOut 81 = .ok (.getfield 101, 3) := by decide +kernel
theorem dX2_workOut_84 : decode cX2_workOut 84 = .ok (.invokevirtual 116, 3) := by decide +kernel
theorem dX2_workOut_87 : decode cX2_workOut 87 = .ok (.goto 87, 3) := by decide +kernel
theorem dX2_workOut_90 : decode cX2_workOut 90 = .ok (.aload_n 0, 1) := by decide +kernel
theorem dX2_workOut_91 : decode cX2_workOut 91 = .ok (.aload_n 0, 1) := by decide +kernel
theorem dX2_workOut_92 : decode cX2_workOut 92 = .ok (.getfield 104, 3) := by decide +kernel
theorem dX2_workOut_95 : decode cX2_workOut 95 = .ok (.invokevirtual 116, 3) := by decide +kernel
theorem dX2_workOut_98 : decode cX2_workOut 98 = .ok (.goto 76, 3) := by decide +kernel
theorem dX2_workOut_101 : decode cX2_workOut 101 = .ok (.aload_n 0, 1) := by decide +kernel
theorem dX2_workOut_102 : decode cX2_workOut 102 = .ok (.aload_n 0, 1) := by decide +kernel
theorem dX2_workOut_103 : decode cX2_workOut 103 = .ok (.getfield 107, 3) := by decide +kernel
theorem dX2_workOut_106 : decode cX2_workOut 106 = .ok (.invokevirtual 116, 3) := by decide +kernel
theorem dX2_workOut_109 : decode cX2_workOut 109 = .ok (.goto 65, 3) := by decide +kernel
theorem dX2_workOut_112 : decode cX2_workOut 112 = .ok (.aload_n 0, 1) := by decide +kernel
theorem dX2_workOut_113 : decode cX2_workOut 113 = .ok (.aload_n 0, 1) := by decide +kernel
theorem dX2_workOut_114 : decode cX2_workOut 114 = .ok (.getfield 110, 3) := by decide +kernel
theorem dX2_workOut_117 : decode cX2_workOut 117 = .ok (.invokevirtual 116, 3) := by decide +kernel
theorem dX2_workOut_120 : decode cX2_workOut 120 = .ok (.goto 54, 3) := by decide +kernel
theorem dX2_workOut_123 : decode cX2_workOut 123 = .ok (.aload_n 0, 1) := by decide +kernel
theorem dX2_workOut_124 : decode cX2_workOut 124 = .ok (.aload_n 0, 1) := by decide +kernel
theorem dX2_workOut_125 : decode cX2_workOut 125 = .ok (.invokevirtual 119, 3) := by decide +kernel
theorem dX2_workOut_128 : decode cX2_workOut 128 = .ok (.ifCond .ne 7, 3) := by decide +kernel
theorem dX2_workOut_131 : decode cX2_workOut 131 = .ok (.iconst 1, 1) := by decide +kernel
theorem dX2_workOut_132 : decode cX2_workOut 132 = .ok (.goto 4, 3) := by decide +kernel
theorem dX2_workOut_135 : decode cX2_workOut 135 = .ok (.iconst 0, 1) := by decide +kernel
theorem dX2_workOut_136 : decode cX2_workOut 136 = .ok (.invokevirtual 116, 3) := by decide +kernel
theorem dX2_workOut_139 : decode cX2_workOut 139 = .ok (.goto 35, 3) := by decide +kernel
theorem dX2_workOut_142 : decode cX2_workOut 142 = .ok (.aload_n 0, 1) := by decide +kernel
theorem dX2_workOut_143 : decode cX2_workOut 143 = .ok (.aload_n 0, 1) := by decide +kernel
theorem dX2_workOut_144 : decode cX2_workOut 144 = .ok (.invokevirtual 119, 3) := by decide +kernel
theorem dX2_workOut_147 : decode cX2_workOut 147 = .ok (.ineg, 1) := by decide +kernel
theorem dX2_workOut_148 : decode cX2_workOut 148 = .ok (.invokevirtual 116, 3) := by decide +kernel
theorem dX2_workOut_151 : decode cX2_workOut 151 = .ok (.goto 23, 3) := by decide +kernel
theorem dX2_workOut_154 : decode cX2_workOut 154 = .ok (.aload_n 0, 1) := by decide +kernel
theorem dX2_workOut_155 : decode cX2_workOut 155 = .ok (.invokevirtual 119, 3) := by decide +kernel
theorem dX2_workOut_158 : decode cX2_workOut 158 = .ok (.istore_n 2, 1) := by decide +kernel
theorem dX2_workOut_159 : decode cX2_workOut 159 = .ok (.aload_n 0, 1) := by decide +kernel
theorem dX2_workOut_160 : decode cX2_workOut 160 = .ok (.invokevirtual 119, 3) := by decide +kernel
theorem dX2_workOut_163 : decode cX2_workOut 163 = .ok (.istore_n 3, 1) := by decide +kernel
theorem dX2_workOut_164 : decode cX2_workOut 164 = .ok (.aload_n 0, 1) := by decide +kernel
theorem dX2_workOut_165 : decode cX2_workOut 165 = .ok (.iload_n 1, 1) := by decide +kernel
theorem dX2_workOut_166 : decode cX2_workOut 166 = .ok (.iload_n 3, 1) := by decide +kernel
theorem dX2_workOut_167 : decode cX2_workOut 167 = .ok (.iload_n 2, 1) := by decide +kernel
theorem dX2_workOut_168 : decode cX2_workOut 168 = .ok (.invokestatic 125, 3) := by decide +kernel
theorem dX2_workOut_171 : decode cX2_workOut 171 = .ok (.invokevirtual 116, 3) := by decide +kernel
theorem dX2_workOut_174 : decode cX2_workOut 174 = .ok (.return_, 1) := by decide +kernel
theorem dX2_joined_0 : decode cX2_joined 0 = .ok (.iload_n 0, 1) := by decide +kernel
theorem dX2_joined_1 : decode cX2_joined 1 = .ok (.lookupswitch 168 #[(38, 97), (42, 152), (43, 144), (45, 148), (47, 156), (60, 111), (61, 122), (62, 133), (124, 83)], 83) := by decide +kernel
theorem dX2_joined_84 : decode cX2_joined 84 = .ok (.iload_n 1, 1) := by decide +kernel
theorem dX2_joined_85 : decode cX2_joined 85 = .ok (.ifCond .ne 7, 3) := by decide +kernel
theorem dX2_joined_88 : decode cX2_joined 88 = .ok (.iload_n 2, 1) := by decide +kernel
theorem dX2_joined_89 : decode cX2_joined 89 = .ok (.ifCond .eq 7, 3) := by decide +kernel
theorem dX2_joined_92 : decode cX2_joined 92 = .ok (.iconst 1, 1) := by decide +kernel
theorem dX2_joined_93 : decode cX2_joined 93 = .ok (.goto 4, 3) := by decide +kernel
theorem dX2_joined_96 : decode cX2_joined 96 = .ok (.iconst 0, 1) := by decide +kernel
theorem dX2_joined_97 : decode cX2_joined 97 = .ok (.ireturn, 1) := by decide +kernel
theorem dX2_joined_98 : decode cX2_joined 98 = .ok (.iload_n 1, 1) := by decide +kernel
theorem dX2_joined_99 : decode cX2_joined 99 = .ok (.ifCond .eq 11, 3) := by decide +kernel
theorem dX2_joined_102 : decode cX2_joined 102 = .ok (.iload_n 2, 1) := by decide +kernel
theorem dX2_joined_103 : decode cX2_joined 103 = .ok (.ifCond .eq 7, 3) := by decide +kernel
theorem dX2_joined_106 : decode cX2_joined 106 = .ok (.iconst 1, 1) := by decide +kernel
theorem dX2_joined_107 : decode cX2_joined 107 = .ok (.goto 4, 3) := by decide +kernel
theorem dX2_joined_110 : decode cX2_joined 110 = .ok (.iconst 0, 1) := by decide +kernel
theorem dX2_joined_111 : decode cX2_joined 111 = .ok (.ireturn, 1) := by decide +kernel
theorem dX2_joined_112 : decode cX2_joined 112 = .ok (.iload_n 1, 1) := by decide +kernel
theorem dX2_joined_113 : decode cX2_joined 113 = .ok (.iload_n 2, 1) := by decide +kernel
theorem dX2_joined_114 : decode cX2_joined 114 = .ok (.if_icmp .ge 7, 3) := by decide +kernel
theorem dX2_joined_117 : decode cX2_joined 117 = .ok (.iconst 1, 1) := by decide +kernel
theorem dX2_joined_118 : decode cX2_joined 118 = .ok (.goto 4, 3) := by decide +kernel
theorem dX2_joined_121 : decode cX2_joined 121 = .ok (.iconst 0, 1) := by decide +kernel
theorem dX2_joined_122 : decode cX2_joined 122 = .ok (.ireturn, 1) := by decide +kernel
theorem dX2_joined_123 : decode cX2_joined 123 = .ok (.iload_n 1, 1) := by decide +kernel
theorem dX2_joined_124 : decode cX2_joined 124 = .ok (.iload_n 2, 1) := by decide +kernel
theorem dX2_joined_125 : decode cX2_joined 125 = .ok (.if_icmp .ne 7, 3) := by decide +kernel
theorem dX2_joined_128 : decode cX2_joined 128 = .ok (.iconst 1, 1) := by decide +kernel
theorem dX2_joined_129 : decode cX2_joined 129 = .ok (.goto 4, 3) := by decide +kernel
theorem dX2_joined_132 : decode cX2_joined 132 = .ok (.iconst 0, 1) := by decide +kernel
theorem dX2_joined_133 : decode cX2_joined 133 = .ok (.ireturn, 1) := by decide +kernel
theorem dX2_joined_134 : decode cX2_joined 134 = .ok (.iload_n 1, 1) := by decide +kernel
theorem dX2_joined_135 : decode cX2_joined 135 = .ok (.iload_n 2, 1) := by decide +kernel
theorem dX2_joined_136 : decode cX2_joined 136 = .ok (.if_icmp .le 7, 3) := by decide +kernel
theorem dX2_joined_139 : decode cX2_joined 139 = .ok (.iconst 1, 1) := by decide +kernel
theorem dX2_joined_140 : decode cX2_joined 140 = .ok (.goto 4, 3) := by decide +kernel
theorem dX2_joined_143 : decode cX2_joined 143 = .ok (.iconst 0, 1) := by decide +kernel
theorem dX2_joined_144 : decode cX2_joined 144 = .ok (.ireturn, 1) := by decide +kernel
theorem dX2_joined_145 : decode cX2_joined 145 = .ok (.iload_n 1, 1) := by decide +kernel
theorem dX2_joined_146 : decode cX2_joined 146 = .ok (.iload_n 2, 1) := by decide +kernel
theorem dX2_joined_147 : decode cX2_joined 147 = .ok (.iadd, 1) := by decide +kernel
theorem dX2_joined_148 : decode cX2_joined 148 = .ok (.ireturn, 1) := by decide +kernel
theorem dX2_joined_149 : decode cX2_joined 149 = .ok (.iload_n 1, 1) := by decide +kernel
theorem dX2_joined_150 : decode cX2_joined 150 = .ok (.iload_n 2, 1) := by decide +kernel
theorem dX2_joined_151 : decode cX2_joined 151 = .ok (.isub, 1) := by decide +kernel
theorem dX2_joined_152 : decode cX2_joined 152 = .ok (.ireturn, 1) := by decide +kernel
theorem dX2_joined_153 : decode cX2_joined 153 = .ok (.iload_n 1, 1) := by decide +kernel
theorem dX2_joined_154 : decode cX2_joined 154 = .ok (.iload_n 2, 1) := by decide +kernel
theorem dX2_joined_155 : decode cX2_joined 155 = .ok (.imul, 1) := by decide +kernel
theorem dX2_joined_156 : decode cX2_joined 156 = .ok (.ireturn, 1) := by decide +kernel
theorem dX2_joined_157 : decode cX2_joined 157 = .ok (.iload_n 2, 1) := by decide +kernel
theorem dX2_joined_158 : decode cX2_joined 158 = .ok (.ifCond .ne 7, 3) := by decide +kernel
theorem dX2_joined_161 : decode cX2_joined 161 = .ok (.iconst 0, 1) := by decide +kernel
theorem dX2_joined_162 : decode cX2_joined 162 = .ok (.goto 6, 3) := by decide +kernel
theorem dX2_joined_165 : decode cX2_joined 165 = .ok (.iload_n 1, 1) := by decide +kernel
theorem dX2_joined_166 : decode cX2_joined 166 = .ok (.iload_n 2, 1) := by decide +kernel
theorem dX2_joined_167 : decode cX2_joined 167 = .ok (.idiv, 1) := by decide +kernel
theorem dX2_joined_168 : decode cX2_joined 168 = .ok (.ireturn, 1) := by decide +kernel
theorem dX2_joined_169 : decode cX2_joined 169 = .ok (.iload_n 2, 1) := by decide +kernel
theorem dX2_joined_170 : decode cX2_joined 170 = .ok (.ifCond .ne 7, 3) := by decide +kernel
theorem dX2_joined_173 : decode cX2_joined 173 = .ok (.iconst 0, 1) := by decide +kernel
theorem dX2_joined_174 : decode cX2_joined 174 = .ok (.goto 6, 3) := by decide +kernel
theorem dX2_joined_177 : decode cX2_joined 177 = .ok (.iload_n 1, 1) := by decide +kernel
theorem dX2_joined_178 : decode cX2_joined 178 = .ok (.iload_n 2, 1) := by decide +kernel
theorem dX2_joined_179 : decode cX2_joined 179 = .ok (.irem, 1) := by decide +kernel
theorem dX2_joined_180 : decode cX2_joined 180 = .ok (.ireturn, 1) := by decide +kernel
theorem dX2_push_0 : decode cX2_push 0 = .ok (.aload_n 0, 1) := by decide +kernel
theorem dX2_push_1 : decode cX2_push 1 = .ok (.getfield 113, 3) := by decide +kernel
theorem dX2_push_4 : decode cX2_push 4 = .ok (.aload_n 0, 1) := by decide +kernel
theorem dX2_push_5 : decode cX2_push 5 = .ok (.getfield 21, 3) := by decide +kernel
theorem dX2_push_8 : decode cX2_push 8 = .ok (.arraylength, 1) := by decide +kernel
theorem dX2_push_9 : decode cX2_push 9 = .ok (.if_icmp .ge 23, 3) := by decide +kernel
theorem dX2_push_12 : decode cX2_push 12 = .ok (.aload_n 0, 1) := by decide +kernel
theorem dX2_push_13 : decode cX2_push 13 = .ok (.getfield 21, 3) := by decide +kernel
theorem dX2_push_16 : decode cX2_push 16 = .ok (.aload_n 0, 1) := by decide +kernel
theorem dX2_push_17 : decode cX2_push 17 = .ok (.getfield 113, 3) := by decide +kernel
theorem dX2_push_20 : decode cX2_push 20 = .ok (.iload_n 1, 1) := by decide +kernel
theorem dX2_push_21 : decode cX2_push 21 = .ok (.iastore, 1) := by decide +kernel
theorem dX2_push_22 : decode cX2_push 22 = .ok (.aload_n 0, 1) := by decide +kernel
theorem dX2_push_23 : decode cX2_push 23 = .ok (.dup, 1) := by decide +kernel
theorem dX2_push_24 : decode cX2_push 24 = .ok (.getfield 113, 3) := by decide +kernel
theorem dX2_push_27 : decode cX2_push 27 = .ok (.iconst 1, 1) := by decide +kernel
theorem dX2_push_28 : decode cX2_push 28 = .ok (.iadd, 1) := by decide +kernel
theorem dX2_push_29 : decode cX2_push 29 = .ok (.putfield 113, 3) := by decide +kernel
theorem dX2_push_32 : decode cX2_push 32 = .ok (.return_, 1) := by decide +kernel
theorem dX2_pop_0 : decode cX2_pop 0 = .ok (.aload_n 0, 1) := by decide +kernel
theorem dX2_pop_1 : decode cX2_pop 1 = .ok (.getfield 113, 3) := by decide +kernel
theorem dX2_pop_4 : decode cX2_pop 4 = .ok (.ifCond .gt 5, 3) := by decide +kernel
theorem dX2_pop_7 : decode cX2_pop 7 = .ok (.iconst 0, 1) := by decide +kernel
theorem dX2_pop_8 : decode cX2_pop 8 = .ok (.ireturn, 1) := by decide +kernel
theorem dX2_pop_9 : decode cX2_pop 9 = .ok (.aload_n 0, 1) := by decide +kernel
theorem dX2_pop_10 : decode cX2_pop 10 = .ok (.dup, 1) := by decide +kernel
theorem dX2_pop_11 : decode cX2_pop 11 = .ok (.getfield 113, 3) := by decide +kernel
theorem dX2_pop_14 : decode cX2_pop 14 = .ok (.iconst 1, 1) := by decide +kernel
theorem dX2_pop_15 : decode cX2_pop 15 = .ok (.isub, 1) := by decide +kernel
theorem dX2_pop_16 : decode cX2_pop 16 = .ok (.putfield 113, 3) := by decide +kernel
theorem dX2_pop_19 : decode cX2_pop 19 = .ok (.aload_n 0, 1) := by decide +kernel
theorem dX2_pop_20 : decode cX2_pop 20 = .ok (.getfield 21, 3) := by decide +kernel
theorem dX2_pop_23 : decode cX2_pop 23 = .ok (.aload_n 0, 1) := by decide +kernel
theorem dX2_pop_24 : decode cX2_pop 24 = .ok (.getfield 113, 3) := by decide +kernel
theorem dX2_pop_27 : decode cX2_pop 27 = .ok (.iaload, 1) := by decide +kernel
theorem dX2_pop_28 : decode cX2_pop 28 = .ok (.ireturn, 1) := by decide +kernel
theorem dX3_init_0 : decode cX3_init 0 = .ok (.aload_n 0, 1) := by decide +kernel
theorem dX3_init_1 : decode cX3_init 1 = .ok (.invokespecial 3, 3) := by decide +kernel
theorem dX3_init_4 : decode cX3_init 4 = .ok (.aload_n 0, 1) := by decide +kernel
theorem dX3_init_5 : decode cX3_init 5 = .ok (.iconst 4, 1) := by decide +kernel
theorem dX3_init_6 : decode cX3_init 6 = .ok (.newarray .int, 2) := by decide +kernel
theorem dX3_init_8 : decode cX3_init 8 = .ok (.putfield 9, 3) := by decide +kernel
theorem dX3_init_11 : decode cX3_init 11 = .ok (.aload_n 0, 1) := by decide +kernel
theorem dX3_init_12 : decode cX3_init 12 = .ok (.iconst 4, 1) := by decide +kernel
theorem dX3_init_13 : decode cX3_init 13 = .ok (.newarray .int, 2) := by decide +kernel
theorem dX3_init_15 : decode cX3_init 15 = .ok (.putfield 15, 3) := by decide +kernel
theorem dX3_init_18 : decode cX3_init 18 = .ok (.aload_n 0, 1) := by decide +kernel
theorem dX3_init_19 : decode cX3_init 19 = .ok (.iconst 3, 1) := by decide +kernel
theorem dX3_init_20 : decode cX3_init 20 = .ok (.newarray .int, 2) := by decide +kernel
theorem dX3_init_22 : decode cX3_init 22 = .ok (.putfield 18, 3) := by decide +kernel
theorem dX3_init_25 : decode cX3_init 25 = .ok (.return_, 1) := by decide +kernel
theorem dX3_redLast_0 : decode cX3_redLast 0 = .ok (.iload_n 3, 1) := by decide +kernel
theorem dX3_redLast_1 : decode cX3_redLast 1 = .ok (.i2l, 1) := by decide +kernel
theorem dX3_redLast_2 : decode cX3_redLast 2 = .ok (.lstore 5, 2) := by decide +kernel
theorem dX3_redLast_4 : decode cX3_redLast 4 = .ok (.iload 4, 2) := by decide +kernel
theorem dX3_redLast_6 : decode cX3_redLast 6 = .ok (.i2l, 1) := by decide +kernel
theorem dX3_redLast_7 : decode cX3_redLast 7 = .ok (.lstore 7, 2) := by decide +kernel
theorem dX3_redLast_9 : decode cX3_redLast 9 = .ok (.iconst 1, 1) := by decide +kernel
theorem dX3_redLast_10 : decode cX3_redLast 10 = .ok (.istore 9, 2) := by decide +kernel
theorem dX3_redLast_12 : decode cX3_redLast 12 = .ok (.iload 9, 2) := by decide +kernel
theorem dX3_redLast_14 : decode cX3_redLast 14 = .ok (.iload_n 2, 1) := by decide +kernel
theorem dX3_redLast_15 : decode cX3_redLast 15 = .ok (.if_icmp .gt 73, 3) := by decide +kernel
theorem dX3_redLast_18 : decode cX3_redLast 18 = .ok (.iload 9, 2) := by decide +kernel
theorem dX3_redLast_20 : decode cX3_redLast 20 = .ok (.iconst 4, 1) := by decide +kernel
theorem dX3_redLast_21 : decode cX3_redLast 21 = .ok (.if_icmp .ge 67, 3) := by decide +kernel
theorem dX3_redLast_24 : decode cX3_redLast 24 = .ok (.aload_n 1, 1) := by decide +kernel
theorem dX3_redLast_25 : decode cX3_redLast 25 = .ok (.getfield 21, 3) := by decide +kernel
theorem dX3_redLast_28 : decode cX3_redLast 28 = .ok (.iconst 3, 1) := by decide +kernel
theorem dX3_redLast_29 : decode cX3_redLast 29 = .ok (.aaload, 1) := by decide +kernel
theorem dX3_redLast_30 : decode cX3_redLast 30 = .ok (.iload 9, 2) := by decide +kernel
theorem dX3_redLast_32 : decode cX3_redLast 32 = .ok (.iaload, 1) := by decide +kernel
theorem dX3_redLast_33 : decode cX3_redLast 33 = .ok (.i2l, 1) := by decide +kernel
theorem dX3_redLast_34 : decode cX3_redLast 34 = .ok (.lstore 10, 2) := by decide +kernel
theorem dX3_redLast_36 : decode cX3_redLast 36 = .ok (.aload_n 1, 1) := by decide +kernel
theorem dX3_redLast_37 : decode cX3_redLast 37 = .ok (.getfield 21, 3) := by decide +kernel
theorem dX3_redLast_40 : decode cX3_redLast 40 = .ok (.iconst 4, 1) := by decide +kernel
theorem dX3_redLast_41 : decode cX3_redLast 41 = .ok (.aaload, 1) := by decide +kernel
theorem dX3_redLast_42 : decode cX3_redLast 42 = .ok (.iload 9, 2) := by decide +kernel
theorem dX3_redLast_44 : decode cX3_redLast 44 = .ok (.iaload, 1) := by decide +kernel
theorem dX3_redLast_45 : decode cX3_redLast 45 = .ok (.i2l, 1) := by decide +kernel
theorem dX3_redLast_46 : decode cX3_redLast 46 = .ok (.lstore 12, 2) := by decide +kernel
theorem dX3_redLast_48 : decode cX3_redLast 48 = .ok (.lload 5, 2) := by decide +kernel
theorem dX3_redLast_50 : decode cX3_redLast 50 = .ok (.lload 10, 2) := by decide +kernel
theorem dX3_redLast_52 : decode cX3_redLast 52 = .ok (.lconst 1, 1) := by decide +kernel
theorem dX3_redLast_53 : decode cX3_redLast 53 = .ok (.ladd, 1) := by decide +kernel
theorem dX3_redLast_54 : decode cX3_redLast 54 = .ok (.lmul, 1) := by decide +kernel
theorem dX3_redLast_55 : decode cX3_redLast 55 = .ok (.lload 7, 2) := by decide +kernel
theorem dX3_redLast_57 : decode cX3_redLast 57 = .ok (.lload 10, 2) := by decide +kernel
theorem dX3_redLast_59 : decode cX3_redLast 59 = .ok (.lmul, 1) := by decide +kernel
theorem dX3_redLast_60 : decode cX3_redLast 60 = .ok (.ladd, 1) := by decide +kernel
theorem dX3_redLast_61 : decode cX3_redLast 61 = .ok (.lstore 14, 2) := by decide +kernel
theorem dX3_redLast_63 : decode cX3_redLast 63 = .ok (.lload 5, 2) := by decide +kernel
theorem dX3_redLast_65 : decode cX3_redLast 65 = .ok (.lload 12, 2) := by decide +kernel
theorem dX3_redLast_67 : decode cX3_redLast 67 = .ok (.lmul, 1) := by decide +kernel
theorem dX3_redLast_68 : decode cX3_redLast 68 = .ok (.lload 7, 2) := by decide +kernel
theorem dX3_redLast_70 : decode cX3_redLast 70 = .ok (.lload 12, 2) := by decide +kernel
theorem dX3_redLast_72 : decode cX3_redLast 72 = .ok (.lconst 1, 1) := by decide +kernel
theorem dX3_redLast_73 : decode cX3_redLast 73 = .ok (.ladd, 1) := by decide +kernel
theorem dX3_redLast_74 : decode cX3_redLast 74 = .ok (.lmul, 1) := by decide +kernel
theorem dX3_redLast_75 : decode cX3_redLast 75 = .ok (.ladd, 1) := by decide +kernel
theorem dX3_redLast_76 : decode cX3_redLast 76 = .ok (.lstore 7, 2) := by decide +kernel
theorem dX3_redLast_78 : decode cX3_redLast 78 = .ok (.lload 14, 2) := by decide +kernel
theorem dX3_redLast_80 : decode cX3_redLast 80 = .ok (.lstore 5, 2) := by decide +kernel
theorem dX3_redLast_82 : decode cX3_redLast 82 = .ok (.iinc 9 1, 3) := by decide +kernel
theorem dX3_redLast_85 : decode cX3_redLast 85 = .ok (.goto (-73), 3) := by decide +kernel
theorem dX3_redLast_88 : decode cX3_redLast 88 = .ok (.lload 5, 2) := by decide +kernel
theorem dX3_redLast_90 : decode cX3_redLast 90 = .ok (.lreturn, 1) := by decide +kernel
theorem dX3_waysToLast_0 : decode cX3_waysToLast 0 = .ok (.aload_n 1, 1) := by decide +kernel
theorem dX3_waysToLast_1 : decode cX3_waysToLast 1 = .ok (.getfield 21, 3) := by decide +kernel
theorem dX3_waysToLast_4 : decode cX3_waysToLast 4 = .ok (.iconst 3, 1) := by decide +kernel
theorem dX3_waysToLast_5 : decode cX3_waysToLast 5 = .ok (.aaload, 1) := by decide +kernel
theorem dX3_waysToLast_6 : decode cX3_waysToLast 6 = .ok (.iconst 0, 1) := by decide +kernel
theorem dX3_waysToLast_7 : decode cX3_waysToLast 7 = .ok (.iaload, 1) := by decide +kernel
theorem dX3_waysToLast_8 : decode cX3_waysToLast 8 = .ok (.aload_n 1, 1) := by decide +kernel
theorem dX3_waysToLast_9 : decode cX3_waysToLast 9 = .ok (.getfield 21, 3) := by decide +kernel
theorem dX3_waysToLast_12 : decode cX3_waysToLast 12 = .ok (.iconst 4, 1) := by decide +kernel
theorem dX3_waysToLast_13 : decode cX3_waysToLast 13 = .ok (.aaload, 1) := by decide +kernel
theorem dX3_waysToLast_14 : decode cX3_waysToLast 14 = .ok (.iconst 0, 1) := by decide +kernel
theorem dX3_waysToLast_15 : decode cX3_waysToLast 15 = .ok (.iaload, 1) := by decide +kernel
theorem dX3_waysToLast_16 : decode cX3_waysToLast 16 = .ok (.iadd, 1) := by decide +kernel
theorem dX3_waysToLast_17 : decode cX3_waysToLast 17 = .ok (.i2l, 1) := by decide +kernel
theorem dX3_waysToLast_18 : decode cX3_waysToLast 18 = .ok (.lstore_n 3, 1) := by decide +kernel
theorem dX3_waysToLast_19 : decode cX3_waysToLast 19 = .ok (.iconst 1, 1) := by decide +kernel
theorem dX3_waysToLast_20 : decode cX3_waysToLast 20 = .ok (.istore 5, 2) := by decide +kernel
theorem dX3_waysToLast_22 : decode cX3_waysToLast 22 = .ok (.iload 5, 2) := by decide +kernel
theorem dX3_waysToLast_24 : decode cX3_waysToLast 24 = .ok (.iload_n 2, 1) := by decide +kernel
theorem dX3_waysToLast_25 : decode cX3_waysToLast 25 = .ok (.if_icmp .gt 40, 3) := by decide +kernel
theorem dX3_waysToLast_28 : decode cX3_waysToLast 28 = .ok (.iload 5, 2) := by decide +kernel
theorem dX3_waysToLast_30 : decode cX3_waysToLast 30 = .ok (.iconst 4, 1) := by decide +kernel
theorem dX3_waysToLast_31 : decode cX3_waysToLast 31 = .ok (.if_icmp .ge 34, 3) := by decide +kernel
theorem dX3_waysToLast_34 : decode cX3_waysToLast 34 = .ok (.lload_n 3, 1) := by decide +kernel
theorem dX3_waysToLast_35 : decode cX3_waysToLast 35 = .ok (.aload_n 1, 1) := by decide +kernel
theorem dX3_waysToLast_36 : decode cX3_waysToLast 36 = .ok (.getfield 21, 3) := by decide +kernel
theorem dX3_waysToLast_39 : decode cX3_waysToLast 39 = .ok (.iconst 3, 1) := by decide +kernel
theorem dX3_waysToLast_40 : decode cX3_waysToLast 40 = .ok (.aaload, 1) := by decide +kernel
theorem dX3_waysToLast_41 : decode cX3_waysToLast 41 = .ok (.iload 5, 2) := by decide +kernel
theorem dX3_waysToLast_43 : decode cX3_waysToLast 43 = .ok (.iaload, 1) := by decide +kernel
theorem dX3_waysToLast_44 : decode cX3_waysToLast 44 = .ok (.aload_n 1, 1) := by decide +kernel
theorem dX3_waysToLast_45 : decode cX3_waysToLast 45 = .ok (.getfield 21, 3) := by decide +kernel
theorem dX3_waysToLast_48 : decode cX3_waysToLast 48 = .ok (.iconst 4, 1) := by decide +kernel
theorem dX3_waysToLast_49 : decode cX3_waysToLast 49 = .ok (.aaload, 1) := by decide +kernel
theorem dX3_waysToLast_50 : decode cX3_waysToLast 50 = .ok (.iload 5, 2) := by decide +kernel
theorem dX3_waysToLast_52 : decode cX3_waysToLast 52 = .ok (.iaload, 1) := by decide +kernel
theorem dX3_waysToLast_53 : decode cX3_waysToLast 53 = .ok (.iadd, 1) := by decide +kernel
theorem dX3_waysToLast_54 : decode cX3_waysToLast 54 = .ok (.iconst 1, 1) := by decide +kernel
theorem dX3_waysToLast_55 : decode cX3_waysToLast 55 = .ok (.iadd, 1) := by decide +kernel
theorem dX3_waysToLast_56 : decode cX3_waysToLast 56 = .ok (.i2l, 1) := by decide +kernel
theorem dX3_waysToLast_57 : decode cX3_waysToLast 57 = .ok (.lmul, 1) := by decide +kernel
theorem dX3_waysToLast_58 : decode cX3_waysToLast 58 = .ok (.lstore_n 3, 1) := by decide +kernel
theorem dX3_waysToLast_59 : decode cX3_waysToLast 59 = .ok (.iinc 5 1, 3) := by decide +kernel
theorem dX3_waysToLast_62 : decode cX3_waysToLast 62 = .ok (.goto (-40), 3) := by decide +kernel
theorem dX3_waysToLast_65 : decode cX3_waysToLast 65 = .ok (.lload_n 3, 1) := by decide +kernel
theorem dX3_waysToLast_66 : decode cX3_waysToLast 66 = .ok (.lreturn, 1) := by decide +kernel
theorem dX3_waysIll_0 : decode cX3_waysIll 0 = .ok (.aload_n 1, 1) := by decide +kernel
theorem dX3_waysIll_1 : decode cX3_waysIll 1 = .ok (.getfield 21, 3) := by decide +kernel
theorem dX3_waysIll_4 : decode cX3_waysIll 4 = .ok (.bipush 9, 2) := by decide +kernel
theorem dX3_waysIll_6 : decode cX3_waysIll 6 = .ok (.aaload, 1) := by decide +kernel
theorem dX3_waysIll_7 : decode cX3_waysIll 7 = .ok (.iconst 0, 1) := by decide +kernel
theorem dX3_waysIll_8 : decode cX3_waysIll 8 = .ok (.iaload, 1) := by decide +kernel
theorem dX3_waysIll_9 : decode cX3_waysIll 9 = .ok (.i2l, 1) := by decide +kernel
theorem dX3_waysIll_10 : decode cX3_waysIll 10 = .ok (.aload_n 1, 1) := by decide +kernel
theorem dX3_waysIll_11 : decode cX3_waysIll 11 = .ok (.getfield 21, 3) := by decide +kernel
theorem dX3_waysIll_14 : decode cX3_waysIll 14 = .ok (.iconst 5, 1) := by decide +kernel
theorem dX3_waysIll_15 : decode cX3_waysIll 15 = .ok (.aaload, 1) := by decide +kernel
theorem dX3_waysIll_16 : decode cX3_waysIll 16 = .ok (.iload_n 2, 1) := by decide +kernel
theorem dX3_waysIll_17 : decode cX3_waysIll 17 = .ok (.iload_n 3, 1) := by decide +kernel
theorem dX3_waysIll_18 : decode cX3_waysIll 18 = .ok (.invokestatic 27, 3) := by decide +kernel
theorem dX3_waysIll_21 : decode cX3_waysIll 21 = .ok (.lmul, 1) := by decide +kernel
theorem dX3_waysIll_22 : decode cX3_waysIll 22 = .ok (.lreturn, 1) := by decide +kernel
theorem dX3_waysWell_0 : decode cX3_waysWell 0 = .ok (.bipush 100, 2) := by decide +kernel
theorem dX3_waysWell_2 : decode cX3_waysWell 2 = .ok (.aload_n 1, 1) := by decide +kernel
theorem dX3_waysWell_3 : decode cX3_waysWell 3 = .ok (.getfield 21, 3) := by decide +kernel
theorem dX3_waysWell_6 : decode cX3_waysWell 6 = .ok (.bipush 9, 2) := by decide +kernel
theorem dX3_waysWell_8 : decode cX3_waysWell 8 = .ok (.aaload, 1) := by decide +kernel
theorem dX3_waysWell_9 : decode cX3_waysWell 9 = .ok (.iconst 0, 1) := by decide +kernel
theorem dX3_waysWell_10 : decode cX3_waysWell 10 = .ok (.iaload, 1) := by decide +kernel
theorem dX3_waysWell_11 : decode cX3_waysWell 11 = .ok (.isub, 1) := by decide +kernel
theorem dX3_waysWell_12 : decode cX3_waysWell 12 = .ok (.i2l, 1) := by decide +kernel
theorem dX3_waysWell_13 : decode cX3_waysWell 13 = .ok (.aload_n 1, 1) := by decide +kernel
theorem dX3_waysWell_14 : decode cX3_waysWell 14 = .ok (.getfield 21, 3) := by decide +kernel
theorem dX3_waysWell_17 : decode cX3_waysWell 17 = .ok (.bipush 6, 2) := by decide +kernel
theorem dX3_waysWell_19 : decode cX3_waysWell 19 = .ok (.aaload, 1) := by decide +kernel
theorem dX3_waysWell_20 : decode cX3_waysWell 20 = .ok (.iload_n 2, 1) := by decide +kernel
theorem dX3_waysWell_21 : decode cX3_waysWell 21 = .ok (.iload_n 2, 1) := by decide +kernel
theorem dX3_waysWell_22 : decode cX3_waysWell 22 = .ok (.iload_n 3, 1) := by decide +kernel
theorem dX3_waysWell_23 : decode cX3_waysWell 23 = .ok (.iconst (-1), 1) := by decide +kernel
theorem dX3_waysWell_24 : decode cX3_waysWell 24 = .ok (.ixor, 1) := by decide +kernel
theorem dX3_waysWell_25 : decode cX3_waysWell 25 = .ok (.iand, 1) := by decide +kernel
theorem dX3_waysWell_26 : decode cX3_waysWell 26 = .ok (.invokestatic 27, 3) := by decide +kernel
theorem dX3_waysWell_29 : decode cX3_waysWell 29 = .ok (.lmul, 1) := by decide +kernel
theorem dX3_waysWell_30 : decode cX3_waysWell 30 = .ok (.lreturn, 1) := by decide +kernel
theorem dX3_waysRight_0 : decode cX3_waysRight 0 = .ok (.lconst 1, 1) := by decide +kernel
theorem dX3_waysRight_1 : decode cX3_waysRight 1 = .ok (.lstore_n 3, 1) := by decide +kernel
theorem dX3_waysRight_2 : decode cX3_waysRight 2 = .ok (.iconst 0, 1) := by decide +kernel
theorem dX3_waysRight_3 : decode cX3_waysRight 3 = .ok (.istore 5, 2) := by decide +kernel
theorem dX3_waysRight_5 : decode cX3_waysRight 5 = .ok (.iload 5, 2) := by decide +kernel
theorem dX3_waysRight_7 : decode cX3_waysRight 7 = .ok (.iconst 4, 1) := by decide +kernel
theorem dX3_waysRight_8 : decode cX3_waysRight 8 = .ok (.if_icmp .ge 48, 3) := by decide +kernel
theorem dX3_waysRight_11 : decode cX3_waysRight 11 = .ok (.iload_n 1, 1) := by decide +kernel
theorem dX3_waysRight_12 : decode cX3_waysRight 12 = .ok (.iload 5, 2) := by decide +kernel
theorem dX3_waysRight_14 : decode cX3_waysRight 14 = .ok (.ishr, 1) := by decide +kernel
theorem dX3_waysRight_15 : decode cX3_waysRight 15 = .ok (.iconst 1, 1) := by decide +kernel
theorem dX3_waysRight_16 : decode cX3_waysRight 16 = .ok (.iand, 1) := by decide +kernel
theorem dX3_waysRight_17 : decode cX3_waysRight 17 = .ok (.iconst 1, 1) := by decide +kernel
theorem dX3_waysRight_18 : decode cX3_waysRight 18 = .ok (.if_icmp .ne 32, 3) := by decide +kernel
theorem dX3_waysRight_21 : decode cX3_waysRight 21 = .ok (.lload_n 3, 1) := by decide +kernel
theorem dX3_waysRight_22 : decode cX3_waysRight 22 = .ok (.iload_n 2, 1) := by decide +kernel
theorem dX3_waysRight_23 : decode cX3_waysRight 23 = .ok (.iload 5, 2) := by decide +kernel
theorem dX3_waysRight_25 : decode cX3_waysRight 25 = .ok (.ishr, 1) := by decide +kernel
theorem dX3_waysRight_26 : decode cX3_waysRight 26 = .ok (.iconst 1, 1) := by decide +kernel
theorem dX3_waysRight_27 : decode cX3_waysRight 27 = .ok (.iand, 1) := by decide +kernel
theorem dX3_waysRight_28 : decode cX3_waysRight 28 = .ok (.iconst 1, 1) := by decide +kernel
theorem dX3_waysRight_29 : decode cX3_waysRight 29 = .ok (.if_icmp .ne 11, 3) := by decide +kernel
theorem dX3_waysRight_32 : decode cX3_waysRight 32 = .ok (.aload_n 0, 1) := by decide +kernel
theorem dX3_waysRight_33 : decode cX3_waysRight 33 = .ok (.iload 5, 2) := by decide +kernel
theorem dX3_waysRight_35 : decode cX3_waysRight 35 = .ok (.iaload, 1) := by decide +kernel
theorem dX3_waysRight_36 : decode cX3_waysRight 36 = .ok (.i2l, 1) := by decide +kernel
theorem dX3_waysRight_37 : decode cX3_waysRight 37 = .ok (.goto 11, 3) := by decide +kernel
theorem dX3_waysRight_40 : decode cX3_waysRight 40 = .ok (.bipush 12, 2) := by decide +kernel
theorem dX3_waysRight_42 : decode cX3_waysRight 42 = .ok (.aload_n 0, 1) := by decide +kernel
theorem dX3_waysRight_43 : decode cX3_waysRight 43 = .ok (.iload 5, 2) := by decide +kernel
theorem dX3_waysRight_45 : decode cX3_waysRight 45 = .ok (.iaload, 1) := by decide +kernel
theorem dX3_waysRight_46 : decode cX3_waysRight 46 = .ok (.isub, 1) := by decide +kernel
theorem dX3_waysRight_47 : decode cX3_waysRight 47 = .ok (.i2l, 1) := by decide +kernel
theorem dX3_waysRight_48 : decode cX3_waysRight 48 = .ok (.lmul, 1) := by decide +kernel
theorem dX3_waysRight_49 : decode cX3_waysRight 49 = .ok (.lstore_n 3, 1) := by decide +kernel
theorem dX3_waysRight_50 : decode cX3_waysRight 50 = .ok (.iinc 5 1, 3) := by decide +kernel
theorem dX3_waysRight_53 : decode cX3_waysRight 53 = .ok (.goto (-48), 3) := by decide +kernel
theorem dX3_waysRight_56 : decode cX3_waysRight 56 = .ok (.lload_n 3, 1) := by decide +kernel
theorem dX3_waysRight_57 : decode cX3_waysRight 57 = .ok (.lreturn, 1) := by decide +kernel
theorem dX3_findOrder_0 : decode cX3_findOrder 0 = .ok (.ldc2_w 33, 3) := by decide +kernel
theorem dX3_findOrder_3 : decode cX3_findOrder 3 = .ok (.lstore_n 2, 1) := by decide +kernel
theorem dX3_findOrder_4 : decode cX3_findOrder 4 = .ok (.iconst 0, 1) := by decide +kernel
theorem dX3_findOrder_5 : decode cX3_findOrder 5 = .ok (.istore 4, 2) := by decide +kernel
theorem dX3_findOrder_7 : decode cX3_findOrder 7 = .ok (.iload 4, 2) := by decide +kernel
theorem dX3_findOrder_9 : decode cX3_findOrder 9 = .ok (.sipush 256, 3) := by decide +kernel
theorem dX3_findOrder_12 : decode cX3_findOrder 12 = .ok (.if_icmp .ge 53, 3) := by decide +kernel
theorem dX3_findOrder_15 : decode cX3_findOrder 15 = .ok (.aload_n 0, 1) := by decide +kernel
theorem dX3_findOrder_16 : decode cX3_findOrder 16 = .ok (.iload 4, 2) := by decide +kernel
theorem dX3_findOrder_18 : decode cX3_findOrder 18 = .ok (.invokevirtual 35, 3) := by decide +kernel
theorem dX3_findOrder_21 : decode cX3_findOrder 21 = .ok (.ifCond .eq 38, 3) := by decide +kernel
theorem dX3_findOrder_24 : decode cX3_findOrder 24 = .ok (.aload_n 0, 1) := by decide +kernel
theorem dX3_findOrder_25 : decode cX3_findOrder 25 = .ok (.aload_n 1, 1) := by decide +kernel
theorem dX3_findOrder_26 : decode cX3_findOrder 26 = .ok (.aload_n 0, 1) := by decide +kernel
theorem dX3_findOrder_27 : decode cX3_findOrder 27 = .ok (.getfield 15, 3) := by decide +kernel
theorem dX3_findOrder_30 : decode cX3_findOrder 30 = .ok (.invokevirtual 39, 3) := by decide +kernel
theorem dX3_findOrder_33 : decode cX3_findOrder 33 = .ok (.lstore 5, 2) := by decide +kernel
theorem dX3_findOrder_35 : decode cX3_findOrder 35 = .ok (.lload 5, 2) := by decide +kernel
theorem dX3_findOrder_37 : decode cX3_findOrder 37 = .ok (.lload_n 2, 1) := by decide +kernel
theorem dX3_findOrder_38 : decode cX3_findOrder 38 = .ok (.lcmp, 1) := by decide +kernel
theorem dX3_findOrder_39 : decode cX3_findOrder 39 = .ok (.ifCond .ge 20, 3) := by decide +kernel
theorem dX3_findOrder_42 : decode cX3_findOrder 42 = .ok (.lload 5, 2) := by decide +kernel
theorem dX3_findOrder_44 : decode cX3_findOrder 44 = .ok (.lstore_n 2, 1) := by decide +kernel
theorem dX3_findOrder_45 : decode cX3_findOrder 45 = .ok (.aload_n 0, 1) := by decide +kernel
theorem dX3_findOrder_46 : decode cX3_findOrder 46 = .ok (.getfield 15, 3) := by decide +kernel
theorem dX3_findOrder_49 : decode cX3_findOrder 49 = .ok (.iconst 0, 1) := by decide +kernel
theorem dX3_findOrder_50 : decode cX3_findOrder 50 = .ok (.aload_n 0, 1) := by decide +kernel
theorem dX3_findOrder_51 : decode cX3_findOrder 51 = .ok (.getfield 9, 3) := by decide +kernel
theorem dX3_findOrder_54 : decode cX3_findOrder 54 = .ok (.iconst 0, 1) := by decide +kernel
theorem dX3_findOrder_55 : decode cX3_findOrder 55 = .ok (.iconst 4, 1) := by decide +kernel
theorem dX3_findOrder_56 : decode cX3_findOrder 56 = .ok (.invokestatic 43, 3) := by decide +kernel
theorem dX3_findOrder_59 : decode cX3_findOrder 59 = .ok (.iinc 4 1, 3) := by decide +kernel
theorem dX3_findOrder_62 : decode cX3_findOrder 62 = .ok (.goto (-55), 3) := by decide +kernel
theorem dX3_findOrder_65 : decode cX3_findOrder 65 = .ok (.return_, 1) := by decide +kernel
theorem dX3_isOrder_0 : decode cX3_isOrder 0 = .ok (.iconst 0, 1) := by decide +kernel
theorem dX3_isOrder_1 : decode cX3_isOrder 1 = .ok (.istore_n 2, 1) := by decide +kernel
theorem dX3_isOrder_2 : decode cX3_isOrder 2 = .ok (.iconst 0, 1) := by decide +kernel
theorem dX3_isOrder_3 : decode cX3_isOrder 3 = .ok (.istore_n 3, 1) := by decide +kernel
theorem dX3_isOrder_4 : decode cX3_isOrder 4 = .ok (.iload_n 3, 1) := by decide +kernel
theorem dX3_isOrder_5 : decode cX3_isOrder 5 = .ok (.iconst 4, 1) := by decide +kernel
theorem dX3_isOrder_6 : decode cX3_isOrder 6 = .ok (.if_icmp .ge 35, 3) := by decide +kernel
theorem dX3_isOrder_9 : decode cX3_isOrder 9 = .ok (.aload_n 0, 1) := by decide +kernel
theorem dX3_isOrder_10 : decode cX3_isOrder 10 = .ok (.getfield 15, 3) := by decide +kernel
theorem dX3_isOrder_13 : decode cX3_isOrder 13 = .ok (.iload_n 3, 1) := by decide +kernel
theorem dX3_isOrder_14 : decode cX3_isOrder 14 = .ok (.iload_n 1, 1) := by decide +kernel
theorem dX3_isOrder_15 : decode cX3_isOrder 15 = .ok (.iconst 2, 1) := by decide +kernel
theorem dX3_isOrder_16 : decode cX3_isOrder 16 = .ok (.iconst 3, 1) := by decide +kernel
theorem dX3_isOrder_17 : decode cX3_isOrder 17 = .ok (.iload_n 3, 1) := by decide +kernel
theorem dX3_isOrder_18 : decode cX3_isOrder 18 = .ok (.isub, 1) := by decide +kernel
theorem dX3_isOrder_19 : decode cX3_isOrder 19 = .ok (.imul, 1) := by decide +kernel
theorem dX3_isOrder_20 : decode cX3_isOrder 20 = .ok (.ishr, 1) := by decide +kernel
theorem dX3_isOrder_21 : decode cX3_isOrder 21 = .ok (.iconst 3, 1) := by decide +kernel
theorem dX3_isOrder_22 : decode cX3_isOrder 22 = .ok (.iand, 1) := by decide +kernel
theorem dX3_isOrder_23 : decode cX3_isOrder 23 = .ok (.iastore, 1) := by decide +kernel
theorem dX3_isOrder_24 : decode cX3_isOrder 24 = .ok (.iload_n 2, 1) := by decide +kernel
theorem dX3_isOrder_25 : decode cX3_isOrder 25 = .ok (.iconst 1, 1) := by decide +kernel
theorem dX3_isOrder_26 : decode cX3_isOrder 26 = .ok (.aload_n 0, 1) := by decide +kernel
theorem dX3_isOrder_27 : decode cX3_isOrder 27 = .ok (.getfield 15, 3) := by decide +kernel
theorem dX3_isOrder_30 : decode cX3_isOrder 30 = .ok (.iload_n 3, 1) := by decide +kernel
theorem dX3_isOrder_31 : decode cX3_isOrder 31 = .ok (.iaload, 1) := by decide +kernel
theorem dX3_isOrder_32 : decode cX3_isOrder 32 = .ok (.ishl, 1) := by decide +kernel
theorem dX3_isOrder_33 : decode cX3_isOrder 33 = .ok (.ior, 1) := by decide +kernel
theorem dX3_isOrder_34 : decode cX3_isOrder 34 = .ok (.istore_n 2, 1) := by decide +kernel
theorem dX3_isOrder_35 : decode cX3_isOrder 35 = .ok (.iinc 3 1, 3) := by decide +kernel
theorem dX3_isOrder_38 : decode cX3_isOrder 38 = .ok (.goto (-34), 3) := by decide +kernel
theorem dX3_isOrder_41 : decode cX3_isOrder 41 = .ok (.iload_n 2, 1) := by decide +kernel
theorem dX3_isOrder_42 : decode cX3_isOrder 42 = .ok (.bipush 15, 2) := by decide +kernel
theorem dX3_isOrder_44 : decode cX3_isOrder 44 = .ok (.if_icmp .ne 7, 3) := by decide +kernel
theorem dX3_isOrder_47 : decode cX3_isOrder 47 = .ok (.iconst 1, 1) := by decide +kernel
theorem dX3_isOrder_48 : decode cX3_isOrder 48 = .ok (.goto 4, 3) := by decide +kernel
theorem dX3_isOrder_51 : decode cX3_isOrder 51 = .ok (.iconst 0, 1) := by decide +kernel
theorem dX3_isOrder_52 : decode cX3_isOrder 52 = .ok (.ireturn, 1) := by decide +kernel
theorem dX3_meanPrice_0 : decode cX3_meanPrice 0 = .ok (.aload_n 1, 1) := by decide +kernel
theorem dX3_meanPrice_1 : decode cX3_meanPrice 1 = .ok (.getfield 21, 3) := by decide +kernel
theorem dX3_meanPrice_4 : decode cX3_meanPrice 4 = .ok (.bipush 9, 2) := by decide +kernel
theorem dX3_meanPrice_6 : decode cX3_meanPrice 6 = .ok (.aaload, 1) := by decide +kernel
theorem dX3_meanPrice_7 : decode cX3_meanPrice 7 = .ok (.iconst 0, 1) := by decide +kernel
theorem dX3_meanPrice_8 : decode cX3_meanPrice 8 = .ok (.iaload, 1) := by decide +kernel
theorem dX3_meanPrice_9 : decode cX3_meanPrice 9 = .ok (.i2l, 1) := by decide +kernel
theorem dX3_meanPrice_10 : decode cX3_meanPrice 10 = .ok (.lstore_n 3, 1) := by decide +kernel
theorem dX3_meanPrice_11 : decode cX3_meanPrice 11 = .ok (.ldc2_w 49, 3) := by decide +kernel
theorem dX3_meanPrice_14 : decode cX3_meanPrice 14 = .ok (.lload_n 3, 1) := by decide +kernel
theorem dX3_meanPrice_15 : decode cX3_meanPrice 15 = .ok (.lsub, 1) := by decide +kernel
theorem dX3_meanPrice_16 : decode cX3_meanPrice 16 = .ok (.lstore 5, 2) := by decide +kernel
theorem dX3_meanPrice_18 : decode cX3_meanPrice 18 = .ok (.lconst 0, 1) := by decide +kernel
theorem dX3_meanPrice_19 : decode cX3_meanPrice 19 = .ok (.lstore 7, 2) := by decide +kernel
theorem dX3_meanPrice_21 : decode cX3_meanPrice 21 = .ok (.iconst 0, 1) := by decide +kernel
theorem dX3_meanPrice_22 : decode cX3_meanPrice 22 = .ok (.istore 9, 2) := by decide +kernel
theorem dX3_meanPrice_24 : decode cX3_meanPrice 24 = .ok (.iload 9, 2) := by decide +kernel
theorem dX3_meanPrice_26 : decode cX3_meanPrice 26 = .ok (.iconst 4, 1) := by decide +kernel
theorem dX3_meanPrice_27 : decode cX3_meanPrice 27 = .ok (.if_icmp .ge 81, 3) := by decide +kernel
theorem dX3_meanPrice_30 : decode cX3_meanPrice 30 = .ok (.aload_n 2, 1) := by decide +kernel
theorem dX3_meanPrice_31 : decode cX3_meanPrice 31 = .ok (.iload 9, 2) := by decide +kernel
theorem dX3_meanPrice_33 : decode cX3_meanPrice 33 = .ok (.iaload, 1) := by decide +kernel
theorem dX3_meanPrice_34 : decode cX3_meanPrice 34 = .ok (.istore 10, 2) := by decide +kernel
theorem dX3_meanPrice_36 : decode cX3_meanPrice 36 = .ok (.iload 10, 2) := by decide +kernel
theorem dX3_meanPrice_38 : decode cX3_meanPrice 38 = .ok (.iconst 4, 1) := by decide +kernel
theorem dX3_meanPrice_39 : decode cX3_meanPrice 39 = .ok (.invokestatic 51, 3) := by decide +kernel
theorem dX3_meanPrice_42 : decode cX3_meanPrice 42 = .ok (.ifCond .eq 60, 3) := by decide +kernel
theorem dX3_meanPrice_45 : decode cX3_meanPrice 45 = .ok (.lload 7, 2) := by decide +kernel
theorem dX3_meanPrice_47 : decode cX3_meanPrice 47 = .ok (.ldc2_w 55, 3) := by decide +kernel
theorem dX3_meanPrice_50 : decode cX3_meanPrice 50 = .ok (.lmul, 1) := by decide +kernel
theorem dX3_meanPrice_51 : decode cX3_meanPrice 51 = .ok (.aload_n 1, 1) := by decide +kernel
theorem dX3_meanPrice_52 : decode cX3_meanPrice 52 = .ok (.getfield 21, 3) := by decide +kernel
theorem dX3_meanPrice_55 : decode cX3_meanPrice 55 = .ok (.bipush 7, 2) := by decide +kernel
theorem dX3_meanPrice_57 : decode cX3_meanPrice 57 = .ok (.aaload, 1) := by decide +kernel
theorem dX3_meanPrice_58 : decode cX3_meanPrice 58 = .ok (.iload 10, 2) := by decide +kernel
theorem dX3_meanPrice_60 : decode cX3_meanPrice 60 = .ok (.iaload, 1) := by decide +kernel
theorem dX3_meanPrice_61 : decode cX3_meanPrice 61 = .ok (.i2l, 1) := by decide +kernel
theorem dX3_meanPrice_62 : decode cX3_meanPrice 62 = .ok (.lload_n 3, 1) := by decide +kernel
theorem dX3_meanPrice_63 : decode cX3_meanPrice 63 = .ok (.lload 5, 2) := by decide +kernel
theorem dX3_meanPrice_65 : decode cX3_meanPrice 65 = .ok (.ladd, 1) := by decide +kernel
theorem dX3_meanPrice_66 : decode cX3_meanPrice 66 = .ok (.lmul, 1) := by decide +kernel
theorem dX3_meanPrice_67 : decode cX3_meanPrice 67 = .ok (.ladd, 1) := by decide +kernel
theorem dX3_meanPrice_68 : decode cX3_meanPrice 68 = .ok (.lstore 7, 2) := by decide +kernel
theorem dX3_meanPrice_70 : decode cX3_meanPrice 70 = .ok (.lload_n 3, 1) := by decide +kernel
theorem dX3_meanPrice_71 : decode cX3_meanPrice 71 = .ok (.aload_n 1, 1) := by decide +kernel
theorem dX3_meanPrice_72 : decode cX3_meanPrice 72 = .ok (.getfield 21, 3) := by decide +kernel
theorem dX3_meanPrice_75 : decode cX3_meanPrice 75 = .ok (.iconst 5, 1) := by decide +kernel
theorem dX3_meanPrice_76 : decode cX3_meanPrice 76 = .ok (.aaload, 1) := by decide +kernel
theorem dX3_meanPrice_77 : decode cX3_meanPrice 77 = .ok (.iload 10, 2) := by decide +kernel
theorem dX3_meanPrice_79 : decode cX3_meanPrice 79 = .ok (.iaload, 1) := by decide +kernel
theorem dX3_meanPrice_80 : decode cX3_meanPrice 80 = .ok (.i2l, 1) := by decide +kernel
theorem dX3_meanPrice_81 : decode cX3_meanPrice 81 = .ok (.lmul, 1) := by decide +kernel
theorem dX3_meanPrice_82 : decode cX3_meanPrice 82 = .ok (.lstore_n 3, 1) := by decide +kernel
theorem dX3_meanPrice_83 : decode cX3_meanPrice 83 = .ok (.lload 5, 2) := by decide +kernel
theorem dX3_meanPrice_85 : decode cX3_meanPrice 85 = .ok (.bipush 12, 2) := by decide +kernel
theorem dX3_meanPrice_87 : decode cX3_meanPrice 87 = .ok (.aload_n 1, 1) := by decide +kernel
theorem dX3_meanPrice_88 : decode cX3_meanPrice 88 = .ok (.getfield 21, 3) := by decide +kernel
theorem dX3_meanPrice_91 : decode cX3_meanPrice 91 = .ok (.bipush 6, 2) := by decide +kernel
theorem dX3_meanPrice_93 : decode cX3_meanPrice 93 = .ok (.aaload, 1) := by decide +kernel
theorem dX3_meanPrice_94 : decode cX3_meanPrice 94 = .ok (.iload 10, 2) := by decide +kernel
theorem dX3_meanPrice_96 : decode cX3_meanPrice 96 = .ok (.iaload, 1) := by decide +kernel
theorem dX3_meanPrice_97 : decode cX3_meanPrice 97 = .ok (.isub, 1) := by decide +kernel
theorem dX3_meanPrice_98 : decode cX3_meanPrice 98 = .ok (.i2l, 1) := by decide +kernel
theorem dX3_meanPrice_99 : decode cX3_meanPrice 99 = .ok (.lmul, 1) := by decide +kernel
theorem dX3_meanPrice_100 : decode cX3_meanPrice 100 = .ok (.lstore 5, 2) := by decide +kernel
theorem dX3_meanPrice_102 : decode cX3_meanPrice 102 = .ok (.iinc 9 1, 3) := by decide +kernel
theorem dX3_meanPrice_105 : decode cX3_meanPrice 105 = .ok (.goto (-81), 3) := by decide +kernel
theorem dX3_meanPrice_108 : decode cX3_meanPrice 108 = .ok (.lload 7, 2) := by decide +kernel
theorem dX3_meanPrice_110 : decode cX3_meanPrice 110 = .ok (.lreturn, 1) := by decide +kernel
theorem dX3_waysTheySay_0 : decode cX3_waysTheySay 0 = .ok (.lconst 1, 1) := by decide +kernel
theorem dX3_waysTheySay_1 : decode cX3_waysTheySay 1 = .ok (.lstore 4, 2) := by decide +kernel
theorem dX3_waysTheySay_3 : decode cX3_waysTheySay 3 = .ok (.iconst 0, 1) := by decide +kernel
theorem dX3_waysTheySay_4 : decode cX3_waysTheySay 4 = .ok (.istore 6, 2) := by decide +kernel
theorem dX3_waysTheySay_6 : decode cX3_waysTheySay 6 = .ok (.iload 6, 2) := by decide +kernel
theorem dX3_waysTheySay_8 : decode cX3_waysTheySay 8 = .ok (.bipush 6, 2) := by decide +kernel
theorem dX3_waysTheySay_10 : decode cX3_waysTheySay 10 = .ok (.if_icmp .ge 58, 3) := by decide +kernel
theorem dX3_waysTheySay_13 : decode cX3_waysTheySay 13 = .ok (.iload_n 2, 1) := by decide +kernel
theorem dX3_waysTheySay_14 : decode cX3_waysTheySay 14 = .ok (.iload 6, 2) := by decide +kernel
theorem dX3_waysTheySay_16 : decode cX3_waysTheySay 16 = .ok (.ishr, 1) := by decide +kernel
theorem dX3_waysTheySay_17 : decode cX3_waysTheySay 17 = .ok (.iconst 1, 1) := by decide +kernel
theorem dX3_waysTheySay_18 : decode cX3_waysTheySay 18 = .ok (.iand, 1) := by decide +kernel
theorem dX3_waysTheySay_19 : decode cX3_waysTheySay 19 = .ok (.iconst 1, 1) := by decide +kernel
theorem dX3_waysTheySay_20 : decode cX3_waysTheySay 20 = .ok (.if_icmp .ne 42, 3) := by decide +kernel
theorem dX3_waysTheySay_23 : decode cX3_waysTheySay 23 = .ok (.aload_n 1, 1) := by decide +kernel
theorem dX3_waysTheySay_24 : decode cX3_waysTheySay 24 = .ok (.getfield 21, 3) := by decide +kernel
theorem dX3_waysTheySay_27 : decode cX3_waysTheySay 27 = .ok (.bipush 8, 2) := by decide +kernel
theorem dX3_waysTheySay_29 : decode cX3_waysTheySay 29 = .ok (.aaload, 1) := by decide +kernel
theorem dX3_waysTheySay_30 : decode cX3_waysTheySay 30 = .ok (.iload 6, 2) := by decide +kernel
theorem dX3_waysTheySay_32 : decode cX3_waysTheySay 32 = .ok (.iaload, 1) := by decide +kernel
theorem dX3_waysTheySay_33 : decode cX3_waysTheySay 33 = .ok (.istore 7, 2) := by decide +kernel
theorem dX3_waysTheySay_35 : decode cX3_waysTheySay 35 = .ok (.lload 4, 2) := by decide +kernel
theorem dX3_waysTheySay_37 : decode cX3_waysTheySay 37 = .ok (.iload_n 3, 1) := by decide +kernel
theorem dX3_waysTheySay_38 : decode cX3_waysTheySay 38 = .ok (.iload 6, 2) := by decide +kernel
theorem dX3_waysTheySay_40 : decode cX3_waysTheySay 40 = .ok (.ishr, 1) := by decide +kernel
theorem dX3_waysTheySay_41 : decode cX3_waysTheySay 41 = .ok (.iconst 1, 1) := by decide +kernel
theorem dX3_waysTheySay_42 : decode cX3_waysTheySay 42 = .ok (.iand, 1) := by decide +kernel
theorem dX3_waysTheySay_43 : decode cX3_waysTheySay 43 = .ok (.iconst 1, 1) := by decide +kernel
theorem dX3_waysTheySay_44 : decode cX3_waysTheySay 44 = .ok (.if_icmp .ne 12, 3) := by decide +kernel
theorem dX3_waysTheySay_47 : decode cX3_waysTheySay 47 = .ok (.bipush 12, 2) := by decide +kernel
theorem dX3_waysTheySay_49 : decode cX3_waysTheySay 49 = .ok (.iload 7, 2) := by decide +kernel
theorem dX3_waysTheySay_51 : decode cX3_waysTheySay 51 = .ok (.isub, 1) := by decide +kernel
theorem dX3_waysTheySay_52 : decode cX3_waysTheySay 52 = .ok (.i2l, 1) := by decide +kernel
theorem dX3_waysTheySay_53 : decode cX3_waysTheySay 53 = .ok (.goto 6, 3) := by decide +kernel
theorem dX3_waysTheySay_56 : decode cX3_waysTheySay 56 = .ok (.iload 7, 2) := by decide +kernel
theorem dX3_waysTheySay_58 : decode cX3_waysTheySay 58 = .ok (.i2l, 1) := by decide +kernel
theorem dX3_waysTheySay_59 : decode cX3_waysTheySay 59 = .ok (.lmul, 1) := by decide +kernel
theorem dX3_waysTheySay_60 : decode cX3_waysTheySay 60 = .ok (.lstore 4, 2) := by decide +kernel
theorem dX3_waysTheySay_62 : decode cX3_waysTheySay 62 = .ok (.iinc 6 1, 3) := by decide +kernel
theorem dX3_waysTheySay_65 : decode cX3_waysTheySay 65 = .ok (.goto (-59), 3) := by decide +kernel
theorem dX3_waysTheySay_68 : decode cX3_waysTheySay 68 = .ok (.lload 4, 2) := by decide +kernel
theorem dX3_waysTheySay_70 : decode cX3_waysTheySay 70 = .ok (.lreturn, 1) := by decide +kernel
theorem dX3_allWays_0 : decode cX3_allWays 0 = .ok (.lconst 1, 1) := by decide +kernel
theorem dX3_allWays_1 : decode cX3_allWays 1 = .ok (.lstore_n 2, 1) := by decide +kernel
theorem dX3_allWays_2 : decode cX3_allWays 2 = .ok (.iconst 0, 1) := by decide +kernel
theorem dX3_allWays_3 : decode cX3_allWays 3 = .ok (.istore 4, 2) := by decide +kernel
theorem dX3_allWays_5 : decode cX3_allWays 5 = .ok (.iload 4, 2) := by decide +kernel
theorem dX3_allWays_7 : decode cX3_allWays 7 = .ok (.bipush 6, 2) := by decide +kernel
theorem dX3_allWays_9 : decode cX3_allWays 9 = .ok (.if_icmp .ge 29, 3) := by decide +kernel
theorem dX3_allWays_12 : decode cX3_allWays 12 = .ok (.lload_n 2, 1) := by decide +kernel
theorem dX3_allWays_13 : decode cX3_allWays 13 = .ok (.iload_n 1, 1) := by decide +kernel
theorem dX3_allWays_14 : decode cX3_allWays 14 = .ok (.iload 4, 2) := by decide +kernel
theorem dX3_allWays_16 : decode cX3_allWays 16 = .ok (.ishr, 1) := by decide +kernel
theorem dX3_allWays_17 : decode cX3_allWays 17 = .ok (.iconst 1, 1) := by decide +kernel
theorem dX3_allWays_18 : decode cX3_allWays 18 = .ok (.iand, 1) := by decide +kernel
theorem dX3_allWays_19 : decode cX3_allWays 19 = .ok (.iconst 1, 1) := by decide +kernel
theorem dX3_allWays_20 : decode cX3_allWays 20 = .ok (.if_icmp .ne 9, 3) := by decide +kernel
theorem dX3_allWays_23 : decode cX3_allWays 23 = .ok (.ldc2_w 55, 3) := by decide +kernel
theorem dX3_allWays_26 : decode cX3_allWays 26 = .ok (.goto 4, 3) := by decide +kernel
theorem dX3_allWays_29 : decode cX3_allWays 29 = .ok (.lconst 1, 1) := by decide +kernel
theorem dX3_allWays_30 : decode cX3_allWays 30 = .ok (.lmul, 1) := by decide +kernel
theorem dX3_allWays_31 : decode cX3_allWays 31 = .ok (.lstore_n 2, 1) := by decide +kernel
theorem dX3_allWays_32 : decode cX3_allWays 32 = .ok (.iinc 4 1, 3) := by decide +kernel
theorem dX3_allWays_35 : decode cX3_allWays 35 = .ok (.goto (-30), 3) := by decide +kernel
theorem dX3_allWays_38 : decode cX3_allWays 38 = .ok (.lload_n 2, 1) := by decide +kernel
theorem dX3_allWays_39 : decode cX3_allWays 39 = .ok (.lreturn, 1) := by decide +kernel
theorem dX3_findStakes_0 : decode cX3_findStakes 0 = .ok (.iconst 0, 1) := by decide +kernel
theorem dX3_findStakes_1 : decode cX3_findStakes 1 = .ok (.istore_n 2, 1) := by decide +kernel
theorem dX3_findStakes_2 : decode cX3_findStakes 2 = .ok (.aload_n 0, 1) := by decide +kernel
theorem dX3_findStakes_3 : decode cX3_findStakes 3 = .ok (.getfield 18, 3) := by decide +kernel
theorem dX3_findStakes_6 : decode cX3_findStakes 6 = .ok (.iconst 0, 1) := by decide +kernel
theorem dX3_findStakes_7 : decode cX3_findStakes 7 = .ok (.iconst 0, 1) := by decide +kernel
theorem dX3_findStakes_8 : decode cX3_findStakes 8 = .ok (.iastore, 1) := by decide +kernel
theorem dX3_findStakes_9 : decode cX3_findStakes 9 = .ok (.aload_n 0, 1) := by decide +kernel
theorem dX3_findStakes_10 : decode cX3_findStakes 10 = .ok (.getfield 18, 3) := by decide +kernel
theorem dX3_findStakes_13 : decode cX3_findStakes 13 = .ok (.iconst 1, 1) := by decide +kernel
theorem dX3_findStakes_14 : decode cX3_findStakes 14 = .ok (.iconst 0, 1) := by decide +kernel
theorem dX3_findStakes_15 : decode cX3_findStakes 15 = .ok (.iastore, 1) := by decide +kernel
theorem dX3_findStakes_16 : decode cX3_findStakes 16 = .ok (.aload_n 0, 1) := by decide +kernel
theorem dX3_findStakes_17 : decode cX3_findStakes 17 = .ok (.getfield 18, 3) := by decide +kernel
theorem dX3_findStakes_20 : decode cX3_findStakes 20 = .ok (.iconst 2, 1) := by decide +kernel
theorem dX3_findStakes_21 : decode cX3_findStakes 21 = .ok (.iconst 0, 1) := by decide +kernel
theorem dX3_findStakes_22 : decode cX3_findStakes 22 = .ok (.iastore, 1) := by decide +kernel
theorem dX3_findStakes_23 : decode cX3_findStakes 23 = .ok (.bipush (-5), 2) := by decide +kernel
theorem dX3_findStakes_25 : decode cX3_findStakes 25 = .ok (.istore_n 3, 1) := by decide +kernel
theorem dX3_findStakes_26 : decode cX3_findStakes 26 = .ok (.iload_n 3, 1) := by decide +kernel
theorem dX3_findStakes_27 : decode cX3_findStakes 27 = .ok (.iconst 5, 1) := by decide +kernel
theorem dX3_findStakes_28 : decode cX3_findStakes 28 = .ok (.if_icmp .gt 90, 3) := by decide +kernel
theorem dX3_findStakes_31 : decode cX3_findStakes 31 = .ok (.bipush (-5), 2) := by decide +kernel
theorem dX3_findStakes_33 : decode cX3_findStakes 33 = .ok (.istore 4, 2) := by decide +kernel
theorem dX3_findStakes_35 : decode cX3_findStakes 35 = .ok (.iload 4, 2) := by decide +kernel
theorem dX3_findStakes_37 : decode cX3_findStakes 37 = .ok (.iconst 5, 1) := by decide +kernel
theorem dX3_findStakes_38 : decode cX3_findStakes 38 = .ok (.if_icmp .gt 74, 3) := by decide +kernel
theorem dX3_findStakes_41 : decode cX3_findStakes 41 = .ok (.bipush (-5), 2) := by decide +kernel
theorem dX3_findStakes_43 : decode cX3_findStakes 43 = .ok (.istore 5, 2) := by decide +kernel
theorem dX3_findStakes_45 : decode cX3_findStakes 45 = .ok (.iload 5, 2) := by decide +kernel
theorem dX3_findStakes_47 : decode cX3_findStakes 47 = .ok (.iconst 5, 1) := by decide +kernel
theorem dX3_findStakes_48 : decode cX3_findStakes 48 = .ok (.if_icmp .gt 58, 3) := by decide +kernel
theorem dX3_findStakes_51 : decode cX3_findStakes 51 = .ok (.aload_n 1, 1) := by decide +kernel
theorem dX3_findStakes_52 : decode cX3_findStakes 52 = .ok (.getfield 21, 3) := by decide +kernel
theorem dX3_findStakes_55 : decode cX3_findStakes 55 = .ok (.bipush 11, 2) := by decide +kernel
theorem dX3_findStakes_57 : decode cX3_findStakes 57 = .ok (.aaload, 1) := by decide +kernel
theorem dX3_findStakes_58 : decode cX3_findStakes 58 = .ok (.iload_n 3, 1) := by decide +kernel
theorem dX3_findStakes_59 : decode cX3_findStakes 59 = .ok (.iload 4, 2) := by decide +kernel
theorem dX3_findStakes_61 : decode cX3_findStakes 61 = .ok (.iload 5, 2) := by decide +kernel
theorem dX3_findStakes_63 : decode cX3_findStakes 63 = .ok (.invokestatic 57, 3) := by decide +kernel
theorem dX3_findStakes_66 : decode cX3_findStakes 66 = .ok (.istore 6, 2) := by decide +kernel
theorem dX3_findStakes_68 : decode cX3_findStakes 68 = .ok (.iload 6, 2) := by decide +kernel
theorem dX3_findStakes_70 : decode cX3_findStakes 70 = .ok (.iload_n 2, 1) := by decide +kernel
theorem dX3_findStakes_71 : decode cX3_findStakes 71 = .ok (.if_icmp .le 29, 3) := by decide +kernel
theorem dX3_findStakes_74 : decode cX3_findStakes 74 = .ok (.iload 6, 2) := by decide +kernel
theorem dX3_findStakes_76 : decode cX3_findStakes 76 = .ok (.istore_n 2, 1) := by decide +kernel
theorem dX3_findStakes_77 : decode cX3_findStakes 77 = .ok (.aload_n 0, 1) := by decide +kernel
theorem dX3_findStakes_78 : decode cX3_findStakes 78 = .ok (.getfield 18, 3) := by decide +kernel
theorem dX3_findStakes_81 : decode cX3_findStakes 81 = .ok (.iconst 0, 1) := by decide +kernel
theorem dX3_findStakes_82 : decode cX3_findStakes 82 = .ok (.iload_n 3, 1) := by decide +kernel
theorem dX3_findStakes_83 : decode cX3_findStakes 83 = .ok (.iastore, 1) := by decide +kernel
theorem dX3_findStakes_84 : decode cX3_findStakes 84 = .ok (.aload_n 0, 1) := by decide +kernel
theorem dX3_findStakes_85 : decode cX3_findStakes 85 = .ok (.getfield 18, 3) := by decide +kernel
theorem dX3_findStakes_88 : decode cX3_findStakes 88 = .ok (.iconst 1, 1) := by decide +kernel
theorem dX3_findStakes_89 : decode cX3_findStakes 89 = .ok (.iload 4, 2) := by decide +kernel
theorem dX3_findStakes_91 : decode cX3_findStakes 91 = .ok (.iastore, 1) := by decide +kernel
theorem dX3_findStakes_92 : decode cX3_findStakes 92 = .ok (.aload_n 0, 1) := by decide +kernel
theorem dX3_findStakes_93 : decode cX3_findStakes 93 = .ok (.getfield 18, 3) := by decide +kernel
theorem dX3_findStakes_96 : decode cX3_findStakes 96 = .ok (.iconst 2, 1) := by decide +kernel
theorem dX3_findStakes_97 : decode cX3_findStakes 97 = .ok (.iload 5, 2) := by decide +kernel
theorem dX3_findStakes_99 : decode cX3_findStakes 99 = .ok (.iastore, 1) := by decide +kernel
theorem dX3_findStakes_100 : decode cX3_findStakes 100 = .ok (.iinc 5 1, 3) := by decide +kernel
theorem dX3_findStakes_103 : decode cX3_findStakes 103 = .ok (.goto (-58), 3) := by decide +kernel
theorem dX3_findStakes_106 : decode cX3_findStakes 106 = .ok (.iinc 4 1, 3) := by decide +kernel
theorem dX3_findStakes_109 : decode cX3_findStakes 109 = .ok (.goto (-74), 3) := by decide +kernel
theorem dX3_findStakes_112 : decode cX3_findStakes 112 = .ok (.iinc 3 1, 3) := by decide +kernel
theorem dX3_findStakes_115 : decode cX3_findStakes 115 = .ok (.goto (-89), 3) := by decide +kernel
theorem dX3_findStakes_118 : decode cX3_findStakes 118 = .ok (.iload_n 2, 1) := by decide +kernel
theorem dX3_findStakes_119 : decode cX3_findStakes 119 = .ok (.ireturn, 1) := by decide +kernel
theorem dX3_leastLoss_0 : decode cX3_leastLoss 0 = .ok (.iload_n 1, 1) := by decide +kernel
theorem dX3_leastLoss_1 : decode cX3_leastLoss 1 = .ok (.aload_n 0, 1) := by decide +kernel
theorem dX3_leastLoss_2 : decode cX3_leastLoss 2 = .ok (.iconst 0, 1) := by decide +kernel
theorem dX3_leastLoss_3 : decode cX3_leastLoss 3 = .ok (.iaload, 1) := by decide +kernel
theorem dX3_leastLoss_4 : decode cX3_leastLoss 4 = .ok (.imul, 1) := by decide +kernel
theorem dX3_leastLoss_5 : decode cX3_leastLoss 5 = .ok (.iload_n 2, 1) := by decide +kernel
theorem dX3_leastLoss_6 : decode cX3_leastLoss 6 = .ok (.aload_n 0, 1) := by decide +kernel
theorem dX3_leastLoss_7 : decode cX3_leastLoss 7 = .ok (.iconst 1, 1) := by decide +kernel
theorem dX3_leastLoss_8 : decode cX3_leastLoss 8 = .ok (.iaload, 1) := by decide +kernel
theorem dX3_leastLoss_9 : decode cX3_leastLoss 9 = .ok (.imul, 1) := by decide +kernel
theorem dX3_leastLoss_10 : decode cX3_leastLoss 10 = .ok (.iadd, 1) := by decide +kernel
theorem dX3_leastLoss_11 : decode cX3_leastLoss 11 = .ok (.iload_n 3, 1) := by decide +kernel
theorem dX3_leastLoss_12 : decode cX3_leastLoss 12 = .ok (.aload_n 0, 1) := by decide +kernel
theorem dX3_leastLoss_13 : decode cX3_leastLoss 13 = .ok (.iconst 2, 1) := by decide +kernel
theorem dX3_leastLoss_14 : decode cX3_leastLoss 14 = .ok (.iaload, 1) := by decide +kernel
theorem dX3_leastLoss_15 : decode cX3_leastLoss 15 = .ok (.imul, 1) := by decide +kernel
theorem dX3_leastLoss_16 : decode cX3_leastLoss 16 = .ok (.iadd, 1) := by decide +kernel
theorem dX3_leastLoss_17 : decode cX3_leastLoss 17 = .ok (.istore 4, 2) := by decide +kernel
theorem dX3_leastLoss_19 : decode cX3_leastLoss 19 = .ok (.bipush 12, 2) := by decide +kernel
theorem dX3_leastLoss_21 : decode cX3_leastLoss 21 = .ok (.iload_n 1, 1) := by decide +kernel
theorem dX3_leastLoss_22 : decode cX3_leastLoss 22 = .ok (.iload_n 2, 1) := by decide +kernel
theorem dX3_leastLoss_23 : decode cX3_leastLoss 23 = .ok (.iload_n 3, 1) := by decide +kernel
theorem dX3_leastLoss_24 : decode cX3_leastLoss 24 = .ok (.invokestatic 61, 3) := by decide +kernel
theorem dX3_leastLoss_27 : decode cX3_leastLoss 27 = .ok (.invokestatic 61, 3) := by decide +kernel
theorem dX3_leastLoss_30 : decode cX3_leastLoss 30 = .ok (.imul, 1) := by decide +kernel
theorem dX3_leastLoss_31 : decode cX3_leastLoss 31 = .ok (.iload 4, 2) := by decide +kernel
theorem dX3_leastLoss_33 : decode cX3_leastLoss 33 = .ok (.isub, 1) := by decide +kernel
theorem dX3_leastLoss_34 : decode cX3_leastLoss 34 = .ok (.ireturn, 1) := by decide +kernel
theorem dX4_init_0 : decode cX4_init 0 = .ok (.aload_n 0, 1) := by decide +kernel
theorem dX4_init_1 : decode cX4_init 1 = .ok (.invokespecial 3, 3) := by decide +kernel
theorem dX4_init_4 : decode cX4_init 4 = .ok (.aload_n 0, 1) := by decide +kernel
theorem dX4_init_5 : decode cX4_init 5 = .ok (.bipush 60, 2) := by decide +kernel
theorem dX4_init_7 : decode cX4_init 7 = .ok (.newarray .long, 2) := by decide +kernel
theorem dX4_init_9 : decode cX4_init 9 = .ok (.putfield 9, 3) := by decide +kernel
theorem dX4_init_12 : decode cX4_init 12 = .ok (.return_, 1) := by decide +kernel
theorem dX4_isRowOf_0 : decode cX4_isRowOf 0 = .ok (.aload_n 0, 1) := by decide +kernel
theorem dX4_isRowOf_1 : decode cX4_isRowOf 1 = .ok (.getfield 15, 3) := by decide +kernel
theorem dX4_isRowOf_4 : decode cX4_isRowOf 4 = .ok (.iconst 2, 1) := by decide +kernel
theorem dX4_isRowOf_5 : decode cX4_isRowOf 5 = .ok (.if_icmp .ne 15, 3) := by decide +kernel
theorem dX4_isRowOf_8 : decode cX4_isRowOf 8 = .ok (.aload_n 0, 1) := by decide +kernel
theorem dX4_isRowOf_9 : decode cX4_isRowOf 9 = .ok (.getfield 19, 3) := by decide +kernel
theorem dX4_isRowOf_12 : decode cX4_isRowOf 12 = .ok (.iload_n 1, 1) := by decide +kernel
theorem dX4_isRowOf_13 : decode cX4_isRowOf 13 = .ok (.if_icmp .ne 7, 3) := by decide +kernel
theorem dX4_isRowOf_16 : decode cX4_isRowOf 16 = .ok (.iconst 1, 1) := by decide +kernel
theorem dX4_isRowOf_17 : decode cX4_isRowOf 17 = .ok (.goto 4, 3) := by decide +kernel
theorem dX4_isRowOf_20 : decode cX4_isRowOf 20 = .ok (.iconst 0, 1) := by decide +kernel
theorem dX4_isRowOf_21 : decode cX4_isRowOf 21 = .ok (.ireturn, 1) := by decide +kernel
theorem dX4_becomeRow_0 : decode cX4_becomeRow 0 = .ok (.aload_n 0, 1) := by decide +kernel
theorem dX4_becomeRow_1 : decode cX4_becomeRow 1 = .ok (.iconst 2, 1) := by decide +kernel
theorem dX4_becomeRow_2 : decode cX4_becomeRow 2 = .ok (.putfield 15, 3) := by decide +kernel
theorem dX4_becomeRow_5 : decode cX4_becomeRow 5 = .ok (.aload_n 0, 1) := by decide +kernel
theorem dX4_becomeRow_6 : decode cX4_becomeRow 6 = .ok (.iload_n 1, 1) := by decide +kernel
theorem dX4_becomeRow_7 : decode cX4_becomeRow 7 = .ok (.putfield 19, 3) := by decide +kernel
theorem dX4_becomeRow_10 : decode cX4_becomeRow 10 = .ok (.aload_n 0, 1) := by decide +kernel
theorem dX4_becomeRow_11 : decode cX4_becomeRow 11 = .ok (.iload_n 2, 1) := by decide +kernel
theorem dX4_becomeRow_12 : decode cX4_becomeRow 12 = .ok (.putfield 22, 3) := by decide +kernel
theorem dX4_becomeRow_15 : decode cX4_becomeRow 15 = .ok (.iconst 0, 1) := by decide +kernel
theorem dX4_becomeRow_16 : decode cX4_becomeRow 16 = .ok (.istore_n 3, 1) := by decide +kernel
theorem dX4_becomeRow_17 : decode cX4_becomeRow 17 = .ok (.iload_n 3, 1) := by decide +kernel
theorem dX4_becomeRow_18 : decode cX4_becomeRow 18 = .ok (.bipush 60, 2) := by decide +kernel
theorem dX4_becomeRow_20 : decode cX4_becomeRow 20 = .ok (.if_icmp .ge 16, 3) := by decide +kernel
theorem dX4_becomeRow_23 : decode cX4_becomeRow 23 = .ok (.aload_n 0, 1) := by decide +kernel
theorem dX4_becomeRow_24 : decode cX4_becomeRow 24 = .ok (.getfield 9, 3) := by decide +kernel
theorem dX4_becomeRow_27 : decode cX4_becomeRow 27 = .ok (.iload_n 3, 1) := by decide +kernel
theorem dX4_becomeRow_28 : decode cX4_becomeRow 28 = .ok (.lconst 0, 1) := by decide +kernel
theorem dX4_becomeRow_29 : decode cX4_becomeRow 29 = .ok (.lastore, 1) := by decide +kernel
theorem dX4_becomeRow_30 : decode cX4_becomeRow 30 = .ok (.iinc 3 1, 3) := by decide +kernel
theorem dX4_becomeRow_33 : decode cX4_becomeRow 33 = .ok (.goto (-16), 3) := by decide +kernel
theorem dX4_becomeRow_36 : decode cX4_becomeRow 36 = .ok (.return_, 1) := by decide +kernel
theorem dX4_kept_0 : decode cX4_kept 0 = .ok (.iload_n 0, 1) := by decide +kernel
theorem dX4_kept_1 : decode cX4_kept 1 = .ok (.tableswitch 47 0 3 #[31, 36, 41, 45], 31) := by decide +kernel
theorem dX4_kept_32 : decode cX4_kept 32 = .ok (.lload_n 1, 1) := by decide +kernel
theorem dX4_kept_33 : decode cX4_kept 33 = .ok (.l2i, 1) := by decide +kernel
theorem dX4_kept_34 : decode cX4_kept 34 = .ok (.i2b, 1) := by decide +kernel
theorem dX4_kept_35 : decode cX4_kept 35 = .ok (.i2l, 1) := by decide +kernel
theorem dX4_kept_36 : decode cX4_kept 36 = .ok (.lreturn, 1) := by decide +kernel
theorem dX4_kept_37 : decode cX4_kept 37 = .ok (.lload_n 1, 1) := by decide +kernel
theorem dX4_kept_38 : decode cX4_kept 38 = .ok (.l2i, 1) := by decide +kernel
theorem dX4_kept_39 : decode cX4_kept 39 = .ok (.i2s, 1) := by decide +kernel
theorem dX4_kept_40 : decode cX4_kept 40 = .ok (.i2l, 1) := by decide +kernel
theorem dX4_kept_41 : decode cX4_kept 41 = .ok (.lreturn, 1) := by decide +kernel
theorem dX4_kept_42 : decode cX4_kept 42 = .ok (.lload_n 1, 1) := by decide +kernel
theorem dX4_kept_43 : decode cX4_kept 43 = .ok (.l2i, 1) := by decide +kernel
theorem dX4_kept_44 : decode cX4_kept 44 = .ok (.i2l, 1) := by decide +kernel
theorem dX4_kept_45 : decode cX4_kept 45 = .ok (.lreturn, 1) := by decide +kernel
theorem dX4_kept_46 : decode cX4_kept 46 = .ok (.lload_n 1, 1) := by decide +kernel
theorem dX4_kept_47 : decode cX4_kept 47 = .ok (.lreturn, 1) := by decide +kernel
theorem dX4_kept_48 : decode cX4_kept 48 = .ok (.lload_n 1, 1) := by decide +kernel
theorem dX4_kept_49 : decode cX4_kept 49 = .ok (.lconst 0, 1) := by decide +kernel
theorem dX4_kept_50 : decode cX4_kept 50 = .ok (.lcmp, 1) := by decide +kernel
theorem dX4_kept_51 : decode cX4_kept 51 = .ok (.ifCond .eq 7, 3) := by decide +kernel
theorem dX4_kept_54 : decode cX4_kept 54 = .ok (.lconst 1, 1) := by decide +kernel
theorem dX4_kept_55 : decode cX4_kept 55 = .ok (.goto 4, 3) := by decide +kernel
theorem dX4_kept_58 : decode cX4_kept 58 = .ok (.lconst 0, 1) := by decide +kernel
theorem dX4_kept_59 : decode cX4_kept 59 = .ok (.lreturn, 1) := by decide +kernel
theorem dX5_init_0 : decode cX5_init 0 = .ok (.aload_n 0, 1) := by decide +kernel
theorem dX5_init_1 : decode cX5_init 1 = .ok (.invokespecial 3, 3) := by decide +kernel
theorem dX5_init_4 : decode cX5_init 4 = .ok (.aload_n 0, 1) := by decide +kernel
theorem dX5_init_5 : decode cX5_init 5 = .ok (.bipush 8, 2) := by decide +kernel
theorem dX5_init_7 : decode cX5_init 7 = .ok (.iconst 2, 1) := by decide +kernel
theorem dX5_init_8 : decode cX5_init 8 = .ok (.multianewarray 9 2, 4) := by decide +kernel
theorem dX5_init_12 : decode cX5_init 12 = .ok (.putfield 11, 3) := by decide +kernel
theorem dX5_init_15 : decode cX5_init 15 = .ok (.return_, 1) := by decide +kernel
theorem dX5_weighAll_0 : decode cX5_weighAll 0 = .ok (.iconst 0, 1) := by decide +kernel
theorem dX5_weighAll_1 : decode cX5_weighAll 1 = .ok (.istore_n 3, 1) := by decide +kernel
theorem dX5_weighAll_2 : decode cX5_weighAll 2 = .ok (.iload_n 3, 1) := by decide +kernel
theorem dX5_weighAll_3 : decode cX5_weighAll 3 = .ok (.aload_n 1, 1) := by decide +kernel
theorem dX5_weighAll_4 : decode cX5_weighAll 4 = .ok (.getfield 16, 3) := by decide +kernel
theorem dX5_weighAll_7 : decode cX5_weighAll 7 = .ok (.if_icmp .ge 16, 3) := by decide +kernel
theorem dX5_weighAll_10 : decode cX5_weighAll 10 = .ok (.aload_n 0, 1) := by decide +kernel
theorem dX5_weighAll_11 : decode cX5_weighAll 11 = .ok (.aload_n 1, 1) := by decide +kernel
theorem dX5_weighAll_12 : decode cX5_weighAll 12 = .ok (.aload_n 2, 1) := by decide +kernel
theorem dX5_weighAll_13 : decode cX5_weighAll 13 = .ok (.iload_n 3, 1) := by decide +kernel
theorem dX5_weighAll_14 : decode cX5_weighAll 14 = .ok (.invokevirtual 22, 3) := by decide +kernel
theorem dX5_weighAll_17 : decode cX5_weighAll 17 = .ok (.iinc 3 1, 3) := by decide +kernel
theorem dX5_weighAll_20 : decode cX5_weighAll 20 = .ok (.goto (-18), 3) := by decide +kernel
theorem dX5_weighAll_23 : decode cX5_weighAll 23 = .ok (.return_, 1) := by decide +kernel
theorem dX5_weigh_0 : decode cX5_weigh 0 = .ok (.aload_n 0, 1) := by decide +kernel
theorem dX5_weigh_1 : decode cX5_weigh 1 = .ok (.aload_n 1, 1) := by decide +kernel
theorem dX5_weigh_2 : decode cX5_weigh 2 = .ok (.aload_n 2, 1) := by decide +kernel
theorem dX5_weigh_3 : decode cX5_weigh 3 = .ok (.iload_n 3, 1) := by decide +kernel
theorem dX5_weigh_4 : decode cX5_weigh 4 = .ok (.aload_n 1, 1) := by decide +kernel
theorem dX5_weigh_5 : decode cX5_weigh 5 = .ok (.getfield 26, 3) := by decide +kernel
theorem dX5_weigh_8 : decode cX5_weigh 8 = .ok (.iconst 0, 1) := by decide +kernel
theorem dX5_weigh_9 : decode cX5_weigh 9 = .ok (.aaload, 1) := by decide +kernel
theorem dX5_weigh_10 : decode cX5_weigh 10 = .ok (.iload_n 3, 1) := by decide +kernel
theorem dX5_weigh_11 : decode cX5_weigh 11 = .ok (.iaload, 1) := by decide +kernel
theorem dX5_weigh_12 : decode cX5_weigh 12 = .ok (.invokevirtual 29, 3) := by decide +kernel
theorem dX5_weigh_15 : decode cX5_weigh 15 = .ok (.return_, 1) := by decide +kernel
theorem dX5_weighAmong_0 : decode cX5_weighAmong 0 = .ok (.iconst 1, 1) := by decide +kernel
theorem dX5_weighAmong_1 : decode cX5_weighAmong 1 = .ok (.istore 5, 2) := by decide +kernel
theorem dX5_weighAmong_3 : decode cX5_weighAmong 3 = .ok (.iconst 1, 1) := by decide +kernel
theorem dX5_weighAmong_4 : decode cX5_weighAmong 4 = .ok (.istore 6, 2) := by decide +kernel
theorem dX5_weighAmong_6 : decode cX5_weighAmong 6 = .ok (.aload_n 2, 1) := by decide +kernel
theorem dX5_weighAmong_7 : decode cX5_weighAmong 7 = .ok (.invokevirtual 33, 3) := by decide +kernel
theorem dX5_weighAmong_10 : decode cX5_weighAmong 10 = .ok (.ifCond .eq 31, 3) := by decide +kernel
theorem dX5_weighAmong_13 : decode cX5_weighAmong 13 = .ok (.aload_n 2, 1) := by decide +kernel
theorem dX5_weighAmong_14 : decode cX5_weighAmong 14 = .ok (.aload_n 1, 1) := by decide +kernel
theorem dX5_weighAmong_15 : decode cX5_weighAmong 15 = .ok (.iload_n 3, 1) := by decide +kernel
theorem dX5_weighAmong_16 : decode cX5_weighAmong 16 = .ok (.iconst 0, 1) := by decide +kernel
theorem dX5_weighAmong_17 : decode cX5_weighAmong 17 = .ok (.iload 4, 2) := by decide +kernel
theorem dX5_weighAmong_19 : decode cX5_weighAmong 19 = .ok (.invokevirtual 39, 3) := by decide +kernel
theorem dX5_weighAmong_22 : decode cX5_weighAmong 22 = .ok (.invokestatic 43, 3) := by decide +kernel
theorem dX5_weighAmong_25 : decode cX5_weighAmong 25 = .ok (.istore 5, 2) := by decide +kernel
theorem dX5_weighAmong_27 : decode cX5_weighAmong 27 = .ok (.aload_n 2, 1) := by decide +kernel
theorem dX5_weighAmong_28 : decode cX5_weighAmong 28 = .ok (.aload_n 1, 1) := by decide +kernel
theorem dX5_weighAmong_29 : decode cX5_weighAmong 29 = .ok (.iload_n 3, 1) := by decide +kernel
theorem dX5_weighAmong_30 : decode cX5_weighAmong 30 = .ok (.iconst 1, 1) := by decide +kernel
theorem dX5_weighAmong_31 : decode cX5_weighAmong 31 = .ok (.iload 4, 2) := by decide +kernel
theorem dX5_weighAmong_33 : decode cX5_weighAmong 33 = .ok (.invokevirtual 39, 3) := by decide +kernel
theorem dX5_weighAmong_36 : decode cX5_weighAmong 36 = .ok (.invokestatic 43, 3) := by decide +kernel
theorem dX5_weighAmong_39 : decode cX5_weighAmong 39 = .ok (.istore 6, 2) := by decide +kernel
theorem dX5_weighAmong_41 : decode cX5_weighAmong 41 = .ok (.iload 5, 2) := by decide +kernel
theorem dX5_weighAmong_43 : decode cX5_weighAmong 43 = .ok (.ifCond .ne 12, 3) := by decide +kernel
theorem dX5_weighAmong_46 : decode cX5_weighAmong 46 = .ok (.iload 6, 2) := by decide +kernel
theorem dX5_weighAmong_48 : decode cX5_weighAmong 48 = .ok (.ifCond .ne 7, 3) := by decide +kernel
theorem dX5_weighAmong_51 : decode cX5_weighAmong 51 = .ok (.iconst 1, 1) := by decide +kernel
theorem dX5_weighAmong_52 : decode cX5_weighAmong 52 = .ok (.goto 4, 3) := by decide +kernel
theorem dX5_weighAmong_55 : decode cX5_weighAmong 55 = .ok (.iconst 0, 1) := by decide +kernel
theorem dX5_weighAmong_56 : decode cX5_weighAmong 56 = .ok (.istore 7, 2) := by decide +kernel
theorem dX5_weighAmong_58 : decode cX5_weighAmong 58 = .ok (.aload_n 0, 1) := by decide +kernel
theorem dX5_weighAmong_59 : decode cX5_weighAmong 59 = .ok (.getfield 11, 3) := by decide +kernel
theorem dX5_weighAmong_62 : decode cX5_weighAmong 62 = .ok (.iload_n 3, 1) := by decide +kernel
theorem dX5_weighAmong_63 : decode cX5_weighAmong 63 = .ok (.aaload, 1) := by decide +kernel
theorem dX5_weighAmong_64 : decode cX5_weighAmong 64 = .ok (.iconst 0, 1) := by decide +kernel
theorem dX5_weighAmong_65 : decode cX5_weighAmong 65 = .ok (.iload 7, 2) := by decide +kernel
theorem dX5_weighAmong_67 : decode cX5_weighAmong 67 = .ok (.ifCond .eq 7, 3) := by decide +kernel
theorem dX5_weighAmong_70 : decode cX5_weighAmong 70 = .ok (.iconst 1, 1) := by decide +kernel
theorem dX5_weighAmong_71 : decode cX5_weighAmong 71 = .ok (.goto 5, 3) := by decide +kernel
theorem dX5_weighAmong_74 : decode cX5_weighAmong 74 = .ok (.iload 5, 2) := by decide +kernel
theorem dX5_weighAmong_76 : decode cX5_weighAmong 76 = .ok (.iastore, 1) := by decide +kernel
theorem dX5_weighAmong_77 : decode cX5_weighAmong 77 = .ok (.aload_n 0, 1) := by decide +kernel
theorem dX5_weighAmong_78 : decode cX5_weighAmong 78 = .ok (.getfield 11, 3) := by decide +kernel
theorem dX5_weighAmong_81 : decode cX5_weighAmong 81 = .ok (.iload_n 3, 1) := by decide +kernel
theorem dX5_weighAmong_82 : decode cX5_weighAmong 82 = .ok (.aaload, 1) := by decide +kernel
theorem dX5_weighAmong_83 : decode cX5_weighAmong 83 = .ok (.iconst 1, 1) := by decide +kernel
theorem dX5_weighAmong_84 : decode cX5_weighAmong 84 = .ok (.iload 7, 2) := by decide +kernel
theorem dX5_weighAmong_86 : decode cX5_weighAmong 86 = .ok (.ifCond .eq 7, 3) := by decide +kernel
theorem dX5_weighAmong_89 : decode cX5_weighAmong 89 = .ok (.iconst 1, 1) := by decide +kernel
theorem dX5_weighAmong_90 : decode cX5_weighAmong 90 = .ok (.goto 5, 3) := by decide +kernel
theorem dX5_weighAmong_93 : decode cX5_weighAmong 93 = .ok (.iload 6, 2) := by decide +kernel
theorem dX5_weighAmong_95 : decode cX5_weighAmong 95 = .ok (.iastore, 1) := by decide +kernel
theorem dX5_weighAmong_96 : decode cX5_weighAmong 96 = .ok (.return_, 1) := by decide +kernel
theorem dX5_held_0 : decode cX5_held 0 = .ok (.iconst 0, 1) := by decide +kernel
theorem dX5_held_1 : decode cX5_held 1 = .ok (.iconst 3, 1) := by decide +kernel
theorem dX5_held_2 : decode cX5_held 2 = .ok (.iload_n 0, 1) := by decide +kernel
theorem dX5_held_3 : decode cX5_held 3 = .ok (.invokestatic 47, 3) := by decide +kernel
theorem dX5_held_6 : decode cX5_held 6 = .ok (.invokestatic 53, 3) := by decide +kernel
theorem dX5_held_9 : decode cX5_held 9 = .ok (.ireturn, 1) := by decide +kernel
theorem dX5_ofSide_0 : decode cX5_ofSide 0 = .ok (.aload_n 0, 1) := by decide +kernel
theorem dX5_ofSide_1 : decode cX5_ofSide 1 = .ok (.getfield 11, 3) := by decide +kernel
theorem dX5_ofSide_4 : decode cX5_ofSide 4 = .ok (.iload_n 1, 1) := by decide +kernel
theorem dX5_ofSide_5 : decode cX5_ofSide 5 = .ok (.aaload, 1) := by decide +kernel
theorem dX5_ofSide_6 : decode cX5_ofSide 6 = .ok (.iconst 0, 1) := by decide +kernel
theorem dX5_ofSide_7 : decode cX5_ofSide 7 = .ok (.iaload, 1) := by decide +kernel
theorem dX5_ofSide_8 : decode cX5_ofSide 8 = .ok (.aload_n 0, 1) := by decide +kernel
theorem dX5_ofSide_9 : decode cX5_ofSide 9 = .ok (.getfield 11, 3) := by decide +kernel
theorem dX5_ofSide_12 : decode cX5_ofSide 12 = .ok (.iload_n 1, 1) := by decide +kernel
theorem dX5_ofSide_13 : decode cX5_ofSide 13 = .ok (.aaload, 1) := by decide +kernel
theorem dX5_ofSide_14 : decode cX5_ofSide 14 = .ok (.iconst 1, 1) := by decide +kernel
theorem dX5_ofSide_15 : decode cX5_ofSide 15 = .ok (.iaload, 1) := by decide +kernel
theorem dX5_ofSide_16 : decode cX5_ofSide 16 = .ok (.iadd, 1) := by decide +kernel
theorem dX5_ofSide_17 : decode cX5_ofSide 17 = .ok (.istore_n 3, 1) := by decide +kernel
theorem dX5_ofSide_18 : decode cX5_ofSide 18 = .ok (.iload_n 3, 1) := by decide +kernel
theorem dX5_ofSide_19 : decode cX5_ofSide 19 = .ok (.iconst 1, 1) := by decide +kernel
theorem dX5_ofSide_20 : decode cX5_ofSide 20 = .ok (.if_icmp .ge 7, 3) := by decide +kernel
theorem dX5_ofSide_23 : decode cX5_ofSide 23 = .ok (.iconst 0, 1) := by decide +kernel
theorem dX5_ofSide_24 : decode cX5_ofSide 24 = .ok (.goto 16, 3) := by decide +kernel
theorem dX5_ofSide_27 : decode cX5_ofSide 27 = .ok (.bipush 60, 2) := by decide +kernel
theorem dX5_ofSide_29 : decode cX5_ofSide 29 = .ok (.iload_n 3, 1) := by decide +kernel
theorem dX5_ofSide_30 : decode cX5_ofSide 30 = .ok (.idiv, 1) := by decide +kernel
theorem dX5_ofSide_31 : decode cX5_ofSide 31 = .ok (.aload_n 0, 1) := by decide +kernel
theorem dX5_ofSide_32 : decode cX5_ofSide 32 = .ok (.getfield 11, 3) := by decide +kernel
theorem dX5_ofSide_35 : decode cX5_ofSide 35 = .ok (.iload_n 1, 1) := by decide +kernel
theorem dX5_ofSide_36 : decode cX5_ofSide 36 = .ok (.aaload, 1) := by decide +kernel
theorem dX5_ofSide_37 : decode cX5_ofSide 37 = .ok (.iload_n 2, 1) := by decide +kernel
theorem dX5_ofSide_38 : decode cX5_ofSide 38 = .ok (.iaload, 1) := by decide +kernel
theorem dX5_ofSide_39 : decode cX5_ofSide 39 = .ok (.imul, 1) := by decide +kernel
theorem dX5_ofSide_40 : decode cX5_ofSide 40 = .ok (.ireturn, 1) := by decide +kernel
theorem dX5_ofColour_0 : decode cX5_ofColour 0 = .ok (.iconst 0, 1) := by decide +kernel
theorem dX5_ofColour_1 : decode cX5_ofColour 1 = .ok (.istore 4, 2) := by decide +kernel
theorem dX5_ofColour_3 : decode cX5_ofColour 3 = .ok (.iconst 0, 1) := by decide +kernel
theorem dX5_ofColour_4 : decode cX5_ofColour 4 = .ok (.istore 5, 2) := by decide +kernel
theorem dX5_ofColour_6 : decode cX5_ofColour 6 = .ok (.iload 5, 2) := by decide +kernel
theorem dX5_ofColour_8 : decode cX5_ofColour 8 = .ok (.iconst 2, 1) := by decide +kernel
theorem dX5_ofColour_9 : decode cX5_ofColour 9 = .ok (.if_icmp .ge 32, 3) := by decide +kernel
theorem dX5_ofColour_12 : decode cX5_ofColour 12 = .ok (.aload_n 1, 1) := by decide +kernel
theorem dX5_ofColour_13 : decode cX5_ofColour 13 = .ok (.iload_n 2, 1) := by decide +kernel
theorem dX5_ofColour_14 : decode cX5_ofColour 14 = .ok (.iload 5, 2) := by decide +kernel
theorem dX5_ofColour_16 : decode cX5_ofColour 16 = .ok (.invokevirtual 56, 3) := by decide +kernel
theorem dX5_ofColour_19 : decode cX5_ofColour 19 = .ok (.iload_n 3, 1) := by decide +kernel
theorem dX5_ofColour_20 : decode cX5_ofColour 20 = .ok (.if_icmp .ne 15, 3) := by decide +kernel
theorem dX5_ofColour_23 : decode cX5_ofColour 23 = .ok (.iload 4, 2) := by decide +kernel
theorem dX5_ofColour_25 : decode cX5_ofColour 25 = .ok (.aload_n 0, 1) := by decide +kernel
theorem dX5_ofColour_26 : decode cX5_ofColour 26 = .ok (.iload_n 2, 1) := by decide +kernel
theorem dX5_ofColour_27 : decode cX5_ofColour 27 = .ok (.iload 5, 2) := by decide +kernel
theorem dX5_ofColour_29 : decode cX5_ofColour 29 = .ok (.invokevirtual 59, 3) := by decide +kernel
theorem dX5_ofColour_32 : decode cX5_ofColour 32 = .ok (.iadd, 1) := by decide +kernel
theorem dX5_ofColour_33 : decode cX5_ofColour 33 = .ok (.istore 4, 2) := by decide +kernel
theorem dX5_ofColour_35 : decode cX5_ofColour 35 = .ok (.iinc 5 1, 3) := by decide +kernel
theorem dX5_ofColour_38 : decode cX5_ofColour 38 = .ok (.goto (-32), 3) := by decide +kernel
theorem dX5_ofColour_41 : decode cX5_ofColour 41 = .ok (.iload 4, 2) := by decide +kernel
theorem dX5_ofColour_43 : decode cX5_ofColour 43 = .ok (.ireturn, 1) := by decide +kernel
theorem dX5_likelyOf_0 : decode cX5_likelyOf 0 = .ok (.aload_n 0, 1) := by decide +kernel
theorem dX5_likelyOf_1 : decode cX5_likelyOf 1 = .ok (.aload_n 1, 1) := by decide +kernel
theorem dX5_likelyOf_2 : decode cX5_likelyOf 2 = .ok (.iload_n 2, 1) := by decide +kernel
theorem dX5_likelyOf_3 : decode cX5_likelyOf 3 = .ok (.iload_n 3, 1) := by decide +kernel
theorem dX5_likelyOf_4 : decode cX5_likelyOf 4 = .ok (.invokevirtual 62, 3) := by decide +kernel
theorem dX5_likelyOf_7 : decode cX5_likelyOf 7 = .ok (.i2l, 1) := by decide +kernel
theorem dX5_likelyOf_8 : decode cX5_likelyOf 8 = .ok (.lstore 5, 2) := by decide +kernel
theorem dX5_likelyOf_10 : decode cX5_likelyOf 10 = .ok (.aload_n 1, 1) := by decide +kernel
theorem dX5_likelyOf_11 : decode cX5_likelyOf 11 = .ok (.getfield 26, 3) := by decide +kernel
theorem dX5_likelyOf_14 : decode cX5_likelyOf 14 = .ok (.iconst 0, 1) := by decide +kernel
theorem dX5_likelyOf_15 : decode cX5_likelyOf 15 = .ok (.aaload, 1) := by decide +kernel
theorem dX5_likelyOf_16 : decode cX5_likelyOf 16 = .ok (.iload_n 2, 1) := by decide +kernel
theorem dX5_likelyOf_17 : decode cX5_likelyOf 17 = .ok (.iaload, 1) := by decide +kernel
theorem dX5_likelyOf_18 : decode cX5_likelyOf 18 = .ok (.i2l, 1) := by decide +kernel
theorem dX5_likelyOf_19 : decode cX5_likelyOf 19 = .ok (.lstore 7, 2) := by decide +kernel
theorem dX5_likelyOf_21 : decode cX5_likelyOf 21 = .ok (.iconst 0, 1) := by decide +kernel
theorem dX5_likelyOf_22 : decode cX5_likelyOf 22 = .ok (.istore 9, 2) := by decide +kernel
theorem dX5_likelyOf_24 : decode cX5_likelyOf 24 = .ok (.iload 9, 2) := by decide +kernel
theorem dX5_likelyOf_26 : decode cX5_likelyOf 26 = .ok (.iload 4, 2) := by decide +kernel
theorem dX5_likelyOf_28 : decode cX5_likelyOf 28 = .ok (.if_icmp .ge 16, 3) := by decide +kernel
theorem dX5_likelyOf_31 : decode cX5_likelyOf 31 = .ok (.lload 7, 2) := by decide +kernel
theorem dX5_likelyOf_33 : decode cX5_likelyOf 33 = .ok (.lload 5, 2) := by decide +kernel
theorem dX5_likelyOf_35 : decode cX5_likelyOf 35 = .ok (.lmul, 1) := by decide +kernel
theorem dX5_likelyOf_36 : decode cX5_likelyOf 36 = .ok (.lstore 7, 2) := by decide +kernel
theorem dX5_likelyOf_38 : decode cX5_likelyOf 38 = .ok (.iinc 9 1, 3) := by decide +kernel
theorem dX5_likelyOf_41 : decode cX5_likelyOf 41 = .ok (.goto (-17), 3) := by decide +kernel
theorem dX5_likelyOf_44 : decode cX5_likelyOf 44 = .ok (.lload 7, 2) := by decide +kernel
theorem dX5_likelyOf_46 : decode cX5_likelyOf 46 = .ok (.lreturn, 1) := by decide +kernel
theorem dX5_likely_0 : decode cX5_likely 0 = .ok (.lconst 0, 1) := by decide +kernel
theorem dX5_likely_1 : decode cX5_likely 1 = .ok (.lstore 4, 2) := by decide +kernel
theorem dX5_likely_3 : decode cX5_likely 3 = .ok (.iconst 0, 1) := by decide +kernel
theorem dX5_likely_4 : decode cX5_likely 4 = .ok (.istore 6, 2) := by decide +kernel
theorem dX5_likely_6 : decode cX5_likely 6 = .ok (.iload 6, 2) := by decide +kernel
theorem dX5_likely_8 : decode cX5_likely 8 = .ok (.aload_n 1, 1) := by decide +kernel
theorem dX5_likely_9 : decode cX5_likely 9 = .ok (.getfield 16, 3) := by decide +kernel
theorem dX5_likely_12 : decode cX5_likely 12 = .ok (.if_icmp .ge 23, 3) := by decide +kernel
theorem dX5_likely_15 : decode cX5_likely 15 = .ok (.lload 4, 2) := by decide +kernel
theorem dX5_likely_17 : decode cX5_likely 17 = .ok (.aload_n 0, 1) := by decide +kernel
theorem dX5_likely_18 : decode cX5_likely 18 = .ok (.aload_n 1, 1) := by decide +kernel
theorem dX5_likely_19 : decode cX5_likely 19 = .ok (.iload 6, 2) := by decide +kernel
theorem dX5_likely_21 : decode cX5_likely 21 = .ok (.iload_n 2, 1) := by decide +kernel
theorem dX5_likely_22 : decode cX5_likely 22 = .ok (.iload_n 3, 1) := by decide +kernel
theorem dX5_likely_23 : decode cX5_likely 23 = .ok (.invokevirtual 66, 3) := by decide +kernel
theorem dX5_likely_26 : decode cX5_likely 26 = .ok (.ladd, 1) := by decide +kernel
theorem dX5_likely_27 : decode cX5_likely 27 = .ok (.lstore 4, 2) := by decide +kernel
theorem dX5_likely_29 : decode cX5_likely 29 = .ok (.iinc 6 1, 3) := by decide +kernel
theorem dX5_likely_32 : decode cX5_likely 32 = .ok (.goto (-26), 3) := by decide +kernel
theorem dX5_likely_35 : decode cX5_likely 35 = .ok (.lload 4, 2) := by decide +kernel
theorem dX5_likely_37 : decode cX5_likely 37 = .ok (.lreturn, 1) := by decide +kernel
theorem dX5_likelyBoth_0 : decode cX5_likelyBoth 0 = .ok (.lconst 0, 1) := by decide +kernel
theorem dX5_likelyBoth_1 : decode cX5_likelyBoth 1 = .ok (.lstore 4, 2) := by decide +kernel
theorem dX5_likelyBoth_3 : decode cX5_likelyBoth 3 = .ok (.iconst 0, 1) := by decide +kernel
theorem dX5_likelyBoth_4 : decode cX5_likelyBoth 4 = .ok (.istore 6, 2) := by decide +kernel
theorem dX5_likelyBoth_6 : decode cX5_likelyBoth 6 = .ok (.iload 6, 2) := by decide +kernel
theorem dX5_likelyBoth_8 : decode cX5_likelyBoth 8 = .ok (.aload_n 1, 1) := by decide +kernel
theorem dX5_likelyBoth_9 : decode cX5_likelyBoth 9 = .ok (.getfield 16, 3) := by decide +kernel
theorem dX5_likelyBoth_12 : decode cX5_likelyBoth 12 = .ok (.if_icmp .ge 75, 3) := by decide +kernel
theorem dX5_likelyBoth_15 : decode cX5_likelyBoth 15 = .ok (.iconst 0, 1) := by decide +kernel
theorem dX5_likelyBoth_16 : decode cX5_likelyBoth 16 = .ok (.istore 7, 2) := by decide +kernel
theorem dX5_likelyBoth_18 : decode cX5_likelyBoth 18 = .ok (.iload 7, 2) := by decide +kernel
theorem dX5_likelyBoth_20 : decode cX5_likelyBoth 20 = .ok (.iconst 2, 1) := by decide +kernel
theorem dX5_likelyBoth_21 : decode cX5_likelyBoth 21 = .ok (.if_icmp .ge 60, 3) := by decide +kernel
theorem dX5_likelyBoth_24 : decode cX5_likelyBoth 24 = .ok (.aload_n 1, 1) := by decide +kernel
theorem dX5_likelyBoth_25 : decode cX5_likelyBoth 25 = .ok (.iload 6, 2) := by decide +kernel
theorem dX5_likelyBoth_27 : decode cX5_likelyBoth 27 = .ok (.iload 7, 2) := by decide +kernel
theorem dX5_likelyBoth_29 : decode cX5_likelyBoth 29 = .ok (.invokevirtual 56, 3) := by decide +kernel
theorem dX5_likelyBoth_32 : decode cX5_likelyBoth 32 = .ok (.iload_n 2, 1) := by decide +kernel
theorem dX5_likelyBoth_33 : decode cX5_likelyBoth 33 = .ok (.if_icmp .ne 42, 3) := by decide +kernel
theorem dX5_likelyBoth_36 : decode cX5_likelyBoth 36 = .ok (.aload_n 1, 1) := by decide +kernel
theorem dX5_likelyBoth_37 : decode cX5_likelyBoth 37 = .ok (.iload 6, 2) := by decide +kernel
theorem dX5_likelyBoth_39 : decode cX5_likelyBoth 39 = .ok (.iconst 1, 1) := by decide +kernel
theorem dX5_likelyBoth_40 : decode cX5_likelyBoth 40 = .ok (.iload 7, 2) := by decide +kernel
theorem dX5_likelyBoth_42 : decode cX5_likelyBoth 42 = .ok (.isub, 1) := by decide +kernel
theorem dX5_likelyBoth_43 : decode cX5_likelyBoth 43 = .ok (.invokevirtual 56, 3) := by decide +kernel
theorem dX5_likelyBoth_46 : decode cX5_likelyBoth 46 = .ok (.iload_n 3, 1) := by decide +kernel
theorem dX5_likelyBoth_47 : decode cX5_likelyBoth 47 = .ok (.if_icmp .ne 28, 3) := by decide +kernel
theorem dX5_likelyBoth_50 : decode cX5_likelyBoth 50 = .ok (.lload 4, 2) := by decide +kernel
theorem dX5_likelyBoth_52 : decode cX5_likelyBoth 52 = .ok (.aload_n 1, 1) := by decide +kernel
theorem dX5_likelyBoth_53 : decode cX5_likelyBoth 53 = .ok (.getfield 26, 3) := by decide +kernel
theorem dX5_likelyBoth_56 : decode cX5_likelyBoth 56 = .ok (.iconst 0, 1) := by decide +kernel
theorem dX5_likelyBoth_57 : decode cX5_likelyBoth 57 = .ok (.aaload, 1) := by decide +kernel
theorem dX5_likelyBoth_58 : decode cX5_likelyBoth 58 = .ok (.iload 6, 2) := by decide +kernel
theorem dX5_likelyBoth_60 : decode cX5_likelyBoth 60 = .ok (.iaload, 1) := by decide +kernel
theorem dX5_likelyBoth_61 : decode cX5_likelyBoth 61 = .ok (.i2l, 1) := by decide +kernel
theorem dX5_likelyBoth_62 : decode cX5_likelyBoth 62 = .ok (.aload_n 0, 1) := by decide +kernel
theorem dX5_likelyBoth_63 : decode cX5_likelyBoth 63 = .ok (.iload 6, 2) := by decide +kernel
theorem dX5_likelyBoth_65 : decode cX5_likelyBoth 65 = .ok (.iload 7, 2) := by decide +kernel
theorem dX5_likelyBoth_67 : decode cX5_likelyBoth 67 = .ok (.invokevirtual 59, 3) := by decide +kernel
theorem dX5_likelyBoth_70 : decode cX5_likelyBoth 70 = .ok (.i2l, 1) := by decide +kernel
theorem dX5_likelyBoth_71 : decode cX5_likelyBoth 71 = .ok (.lmul, 1) := by decide +kernel
theorem dX5_likelyBoth_72 : decode cX5_likelyBoth 72 = .ok (.ladd, 1) := by decide +kernel
theorem dX5_likelyBoth_73 : decode cX5_likelyBoth 73 = .ok (.lstore 4, 2) := by decide +kernel
theorem dX5_likelyBoth_75 : decode cX5_likelyBoth 75 = .ok (.iinc 7 1, 3) := by decide +kernel
theorem dX5_likelyBoth_78 : decode cX5_likelyBoth 78 = .ok (.goto (-60), 3) := by decide +kernel
theorem dX5_likelyBoth_81 : decode cX5_likelyBoth 81 = .ok (.iinc 6 1, 3) := by decide +kernel
theorem dX5_likelyBoth_84 : decode cX5_likelyBoth 84 = .ok (.goto (-78), 3) := by decide +kernel
theorem dX5_likelyBoth_87 : decode cX5_likelyBoth 87 = .ok (.lload 4, 2) := by decide +kernel
theorem dX5_likelyBoth_89 : decode cX5_likelyBoth 89 = .ok (.lreturn, 1) := by decide +kernel
theorem dX5_mostLikelyMore_0 : decode cX5_mostLikelyMore 0 = .ok (.bipush (-2), 2) := by decide +kernel
theorem dX5_mostLikelyMore_2 : decode cX5_mostLikelyMore 2 = .ok (.istore 4, 2) := by decide +kernel
theorem dX5_mostLikelyMore_4 : decode cX5_mostLikelyMore 4 = .ok (.aload_n 0, 1) := by decide +kernel
theorem dX5_mostLikelyMore_5 : decode cX5_mostLikelyMore 5 = .ok (.aload_n 1, 1) := by decide +kernel
theorem dX5_mostLikelyMore_6 : decode cX5_mostLikelyMore 6 = .ok (.iconst (-1), 1) := by decide +kernel
theorem dX5_mostLikelyMore_7 : decode cX5_mostLikelyMore 7 = .ok (.aload_n 3, 1) := by decide +kernel
theorem dX5_mostLikelyMore_8 : decode cX5_mostLikelyMore 8 = .ok (.invokevirtual 70, 3) := by decide +kernel
theorem dX5_mostLikelyMore_11 : decode cX5_mostLikelyMore 11 = .ok (.lstore 5, 2) := by decide +kernel
theorem dX5_mostLikelyMore_13 : decode cX5_mostLikelyMore 13 = .ok (.aload_n 1, 1) := by decide +kernel
theorem dX5_mostLikelyMore_14 : decode cX5_mostLikelyMore 14 = .ok (.invokevirtual 74, 3) := by decide +kernel
theorem dX5_mostLikelyMore_17 : decode cX5_mostLikelyMore 17 = .ok (.aload_n 3, 1) := by decide +kernel
theorem dX5_mostLikelyMore_18 : decode cX5_mostLikelyMore 18 = .ok (.invokestatic 78, 3) := by decide +kernel
theorem dX5_mostLikelyMore_21 : decode cX5_mostLikelyMore 21 = .ok (.lstore 7, 2) := by decide +kernel
theorem dX5_mostLikelyMore_23 : decode cX5_mostLikelyMore 23 = .ok (.aload_n 1, 1) := by decide +kernel
theorem dX5_mostLikelyMore_24 : decode cX5_mostLikelyMore 24 = .ok (.invokevirtual 74, 3) := by decide +kernel
theorem dX5_mostLikelyMore_27 : decode cX5_mostLikelyMore 27 = .ok (.iconst 1, 1) := by decide +kernel
theorem dX5_mostLikelyMore_28 : decode cX5_mostLikelyMore 28 = .ok (.iadd, 1) := by decide +kernel
theorem dX5_mostLikelyMore_29 : decode cX5_mostLikelyMore 29 = .ok (.aload_n 3, 1) := by decide +kernel
theorem dX5_mostLikelyMore_30 : decode cX5_mostLikelyMore 30 = .ok (.invokestatic 78, 3) := by decide +kernel
theorem dX5_mostLikelyMore_33 : decode cX5_mostLikelyMore 33 = .ok (.lstore 9, 2) := by decide +kernel
theorem dX5_mostLikelyMore_35 : decode cX5_mostLikelyMore 35 = .ok (.iconst 0, 1) := by decide +kernel
theorem dX5_mostLikelyMore_36 : decode cX5_mostLikelyMore 36 = .ok (.istore 11, 2) := by decide +kernel
theorem dX5_mostLikelyMore_38 : decode cX5_mostLikelyMore 38 = .ok (.iload 11, 2) := by decide +kernel
theorem dX5_mostLikelyMore_40 : decode cX5_mostLikelyMore 40 = .ok (.aload_n 1, 1) := by decide +kernel
theorem dX5_mostLikelyMore_41 : decode cX5_mostLikelyMore 41 = .ok (.getfield 16, 3) := by decide +kernel
theorem dX5_mostLikelyMore_44 : decode cX5_mostLikelyMore 44 = .ok (.if_icmp .ge 72, 3) := by decide +kernel
theorem dX5_mostLikelyMore_47 : decode cX5_mostLikelyMore 47 = .ok (.aload_n 0, 1) := by decide +kernel
theorem dX5_mostLikelyMore_48 : decode cX5_mostLikelyMore 48 = .ok (.aload_n 1, 1) := by decide +kernel
theorem dX5_mostLikelyMore_49 : decode cX5_mostLikelyMore 49 = .ok (.aload_n 2, 1) := by decide +kernel
theorem dX5_mostLikelyMore_50 : decode cX5_mostLikelyMore 50 = .ok (.iload 11, 2) := by decide +kernel
theorem dX5_mostLikelyMore_52 : decode cX5_mostLikelyMore 52 = .ok (.aload_n 1, 1) := by decide +kernel
theorem dX5_mostLikelyMore_53 : decode cX5_mostLikelyMore 53 = .ok (.getfield 26, 3) := by decide +kernel
theorem dX5_mostLikelyMore_56 : decode cX5_mostLikelyMore 56 = .ok (.iconst 0, 1) := by decide +kernel
theorem dX5_mostLikelyMore_57 : decode cX5_mostLikelyMore 57 = .ok (.aaload, 1) := by decide +kernel
theorem dX5_mostLikelyMore_58 : decode cX5_mostLikelyMore 58 = .ok (.iload 11, 2) := by decide +kernel
theorem dX5_mostLikelyMore_60 : decode cX5_mostLikelyMore 60 = .ok (.iaload, 1) := by decide +kernel
theorem dX5_mostLikelyMore_61 : decode cX5_mostLikelyMore 61 = .ok (.iconst 1, 1) := by decide +kernel
theorem dX5_mostLikelyMore_62 : decode cX5_mostLikelyMore 62 = .ok (.iadd, 1) := by decide +kernel
theorem dX5_mostLikelyMore_63 : decode cX5_mostLikelyMore 63 = .ok (.invokevirtual 29, 3) := by decide +kernel
theorem dX5_mostLikelyMore_66 : decode cX5_mostLikelyMore 66 = .ok (.aload_n 0, 1) := by decide +kernel
theorem dX5_mostLikelyMore_67 : decode cX5_mostLikelyMore 67 = .ok (.aload_n 1, 1) := by decide +kernel
theorem dX5_mostLikelyMore_68 : decode cX5_mostLikelyMore 68 = .ok (.iload 11, 2) := by decide +kernel
theorem dX5_mostLikelyMore_70 : decode cX5_mostLikelyMore 70 = .ok (.aload_n 3, 1) := by decide +kernel
theorem dX5_mostLikelyMore_71 : decode cX5_mostLikelyMore 71 = .ok (.invokevirtual 70, 3) := by decide +kernel
theorem dX5_mostLikelyMore_74 : decode cX5_mostLikelyMore 74 = .ok (.lstore 12, 2) := by decide +kernel
theorem dX5_mostLikelyMore_76 : decode cX5_mostLikelyMore 76 = .ok (.aload_n 0, 1) := by decide +kernel
theorem dX5_mostLikelyMore_77 : decode cX5_mostLikelyMore 77 = .ok (.aload_n 1, 1) := by decide +kernel
theorem dX5_mostLikelyMore_78 : decode cX5_mostLikelyMore 78 = .ok (.aload_n 2, 1) := by decide +kernel
theorem dX5_mostLikelyMore_79 : decode cX5_mostLikelyMore 79 = .ok (.iload 11, 2) := by decide +kernel
theorem dX5_mostLikelyMore_81 : decode cX5_mostLikelyMore 81 = .ok (.invokevirtual 22, 3) := by decide +kernel
theorem dX5_mostLikelyMore_84 : decode cX5_mostLikelyMore 84 = .ok (.lload 12, 2) := by decide +kernel
theorem dX5_mostLikelyMore_86 : decode cX5_mostLikelyMore 86 = .ok (.lload 9, 2) := by decide +kernel
theorem dX5_mostLikelyMore_88 : decode cX5_mostLikelyMore 88 = .ok (.lload 5, 2) := by decide +kernel
theorem dX5_mostLikelyMore_90 : decode cX5_mostLikelyMore 90 = .ok (.lload 7, 2) := by decide +kernel
theorem dX5_mostLikelyMore_92 : decode cX5_mostLikelyMore 92 = .ok (.invokestatic 82, 3) := by decide +kernel
theorem dX5_mostLikelyMore_95 : decode cX5_mostLikelyMore 95 = .ok (.ifCond .eq 15, 3) := by decide +kernel
theorem dX5_mostLikelyMore_98 : decode cX5_mostLikelyMore 98 = .ok (.iload 11, 2) := by decide +kernel
theorem dX5_mostLikelyMore_100 : decode cX5_mostLikelyMore 100 = .ok (.istore 4, 2) := by decide +kernel
theorem dX5_mostLikelyMore_102 : decode cX5_mostLikelyMore 102 = .ok (.lload 12, 2) := by decide +kernel
theorem dX5_mostLikelyMore_104 : decode cX5_mostLikelyMore 104 = .ok (.lstore 5, 2) := by decide +kernel
theorem dX5_mostLikelyMore_106 : decode cX5_mostLikelyMore 106 = .ok (.lload 9, 2) := by decide +kernel
theorem dX5_mostLikelyMore_108 : decode cX5_mostLikelyMore 108 = .ok (.lstore 7, 2) := by decide +kernel
theorem dX5_mostLikelyMore_110 : decode cX5_mostLikelyMore 110 = .ok (.iinc 11 1, 3) := by decide +kernel
theorem dX5_mostLikelyMore_113 : decode cX5_mostLikelyMore 113 = .ok (.goto (-75), 3) := by decide +kernel
theorem dX5_mostLikelyMore_116 : decode cX5_mostLikelyMore 116 = .ok (.iload 4, 2) := by decide +kernel
theorem dX5_mostLikelyMore_118 : decode cX5_mostLikelyMore 118 = .ok (.ireturn, 1) := by decide +kernel
theorem dX5_waysWith_0 : decode cX5_waysWith 0 = .ok (.lconst 1, 1) := by decide +kernel
theorem dX5_waysWith_1 : decode cX5_waysWith 1 = .ok (.lstore 4, 2) := by decide +kernel
theorem dX5_waysWith_3 : decode cX5_waysWith 3 = .ok (.iconst 0, 1) := by decide +kernel
theorem dX5_waysWith_4 : decode cX5_waysWith 4 = .ok (.istore 6, 2) := by decide +kernel
theorem dX5_waysWith_6 : decode cX5_waysWith 6 = .ok (.iload 6, 2) := by decide +kernel
theorem dX5_waysWith_8 : decode cX5_waysWith 8 = .ok (.aload_n 3, 1) := by decide +kernel
theorem dX5_waysWith_9 : decode cX5_waysWith 9 = .ok (.getfield 86, 3) := by decide +kernel
theorem dX5_waysWith_12 : decode cX5_waysWith 12 = .ok (.if_icmp .ge 55, 3) := by decide +kernel
theorem dX5_waysWith_15 : decode cX5_waysWith 15 = .ok (.aload_n 3, 1) := by decide +kernel
theorem dX5_waysWith_16 : decode cX5_waysWith 16 = .ok (.getfield 91, 3) := by decide +kernel
theorem dX5_waysWith_19 : decode cX5_waysWith 19 = .ok (.iload 6, 2) := by decide +kernel
theorem dX5_waysWith_21 : decode cX5_waysWith 21 = .ok (.laload, 1) := by decide +kernel
theorem dX5_waysWith_22 : decode cX5_waysWith 22 = .ok (.l2i, 1) := by decide +kernel
theorem dX5_waysWith_23 : decode cX5_waysWith 23 = .ok (.istore 7, 2) := by decide +kernel
theorem dX5_waysWith_25 : decode cX5_waysWith 25 = .ok (.aload_n 0, 1) := by decide +kernel
theorem dX5_waysWith_26 : decode cX5_waysWith 26 = .ok (.aload_n 1, 1) := by decide +kernel
theorem dX5_waysWith_27 : decode cX5_waysWith 27 = .ok (.iload 7, 2) := by decide +kernel
theorem dX5_waysWith_29 : decode cX5_waysWith 29 = .ok (.iconst 1, 1) := by decide +kernel
theorem dX5_waysWith_30 : decode cX5_waysWith 30 = .ok (.invokevirtual 95, 3) := by decide +kernel
theorem dX5_waysWith_33 : decode cX5_waysWith 33 = .ok (.lstore 8, 2) := by decide +kernel
theorem dX5_waysWith_35 : decode cX5_waysWith 35 = .ok (.lload 4, 2) := by decide +kernel
theorem dX5_waysWith_37 : decode cX5_waysWith 37 = .ok (.iload_n 2, 1) := by decide +kernel
theorem dX5_waysWith_38 : decode cX5_waysWith 38 = .ok (.ifCond .ge 8, 3) := by decide +kernel
theorem dX5_waysWith_41 : decode cX5_waysWith 41 = .ok (.lload 8, 2) := by decide +kernel
theorem dX5_waysWith_43 : decode cX5_waysWith 43 = .ok (.goto 15, 3) := by decide +kernel
theorem dX5_waysWith_46 : decode cX5_waysWith 46 = .ok (.lload 8, 2) := by decide +kernel
theorem dX5_waysWith_48 : decode cX5_waysWith 48 = .ok (.aload_n 0, 1) := by decide +kernel
theorem dX5_waysWith_49 : decode cX5_waysWith 49 = .ok (.aload_n 1, 1) := by decide +kernel
theorem dX5_waysWith_50 : decode cX5_waysWith 50 = .ok (.iload_n 2, 1) := by decide +kernel
theorem dX5_waysWith_51 : decode cX5_waysWith 51 = .ok (.iload 7, 2) := by decide +kernel
theorem dX5_waysWith_53 : decode cX5_waysWith 53 = .ok (.invokevirtual 62, 3) := by decide +kernel
theorem dX5_waysWith_56 : decode cX5_waysWith 56 = .ok (.i2l, 1) := by decide +kernel
theorem dX5_waysWith_57 : decode cX5_waysWith 57 = .ok (.ladd, 1) := by decide +kernel
theorem dX5_waysWith_58 : decode cX5_waysWith 58 = .ok (.lmul, 1) := by decide +kernel
theorem dX5_waysWith_59 : decode cX5_waysWith 59 = .ok (.lstore 4, 2) := by decide +kernel
theorem dX5_waysWith_61 : decode cX5_waysWith 61 = .ok (.iinc 6 1, 3) := by decide +kernel
theorem dX5_waysWith_64 : decode cX5_waysWith 64 = .ok (.goto (-58), 3) := by decide +kernel
theorem dX5_waysWith_67 : decode cX5_waysWith 67 = .ok (.lload 4, 2) := by decide +kernel
theorem dX5_waysWith_69 : decode cX5_waysWith 69 = .ok (.lreturn, 1) := by decide +kernel
theorem dX5_allWaysOf_0 : decode cX5_allWaysOf 0 = .ok (.lconst 1, 1) := by decide +kernel
theorem dX5_allWaysOf_1 : decode cX5_allWaysOf 1 = .ok (.lstore_n 2, 1) := by decide +kernel
theorem dX5_allWaysOf_2 : decode cX5_allWaysOf 2 = .ok (.iconst 0, 1) := by decide +kernel
theorem dX5_allWaysOf_3 : decode cX5_allWaysOf 3 = .ok (.istore 4, 2) := by decide +kernel
theorem dX5_allWaysOf_5 : decode cX5_allWaysOf 5 = .ok (.iload 4, 2) := by decide +kernel
theorem dX5_allWaysOf_7 : decode cX5_allWaysOf 7 = .ok (.aload_n 1, 1) := by decide +kernel
theorem dX5_allWaysOf_8 : decode cX5_allWaysOf 8 = .ok (.getfield 86, 3) := by decide +kernel
theorem dX5_allWaysOf_11 : decode cX5_allWaysOf 11 = .ok (.if_icmp .ge 18, 3) := by decide +kernel
theorem dX5_allWaysOf_14 : decode cX5_allWaysOf 14 = .ok (.lload_n 2, 1) := by decide +kernel
theorem dX5_allWaysOf_15 : decode cX5_allWaysOf 15 = .ok (.ldc2_w 99, 3) := by decide +kernel
theorem dX5_allWaysOf_18 : decode cX5_allWaysOf 18 = .ok (.iload_n 0, 1) := by decide +kernel
theorem dX5_allWaysOf_19 : decode cX5_allWaysOf 19 = .ok (.i2l, 1) := by decide +kernel
theorem dX5_allWaysOf_20 : decode cX5_allWaysOf 20 = .ok (.lmul, 1) := by decide +kernel
theorem dX5_allWaysOf_21 : decode cX5_allWaysOf 21 = .ok (.lmul, 1) := by decide +kernel
theorem dX5_allWaysOf_22 : decode cX5_allWaysOf 22 = .ok (.lstore_n 2, 1) := by decide +kernel
theorem dX5_allWaysOf_23 : decode cX5_allWaysOf 23 = .ok (.iinc 4 1, 3) := by decide +kernel
theorem dX5_allWaysOf_26 : decode cX5_allWaysOf 26 = .ok (.goto (-21), 3) := by decide +kernel
theorem dX5_allWaysOf_29 : decode cX5_allWaysOf 29 = .ok (.lload_n 2, 1) := by decide +kernel
theorem dX5_allWaysOf_30 : decode cX5_allWaysOf 30 = .ok (.lconst 1, 1) := by decide +kernel
theorem dX5_allWaysOf_31 : decode cX5_allWaysOf 31 = .ok (.lcmp, 1) := by decide +kernel
theorem dX5_allWaysOf_32 : decode cX5_allWaysOf 32 = .ok (.ifCond .ge 7, 3) := by decide +kernel
theorem dX5_allWaysOf_35 : decode cX5_allWaysOf 35 = .ok (.lconst 1, 1) := by decide +kernel
theorem dX5_allWaysOf_36 : decode cX5_allWaysOf 36 = .ok (.goto 4, 3) := by decide +kernel
theorem dX5_allWaysOf_39 : decode cX5_allWaysOf 39 = .ok (.lload_n 2, 1) := by decide +kernel
theorem dX5_allWaysOf_40 : decode cX5_allWaysOf 40 = .ok (.lreturn, 1) := by decide +kernel
theorem dX5_isMore_0 : decode cX5_isMore 0 = .ok (.lload_n 0, 1) := by decide +kernel
theorem dX5_isMore_1 : decode cX5_isMore 1 = .ok (.lstore 8, 2) := by decide +kernel
theorem dX5_isMore_3 : decode cX5_isMore 3 = .ok (.lload_n 2, 1) := by decide +kernel
theorem dX5_isMore_4 : decode cX5_isMore 4 = .ok (.lstore 10, 2) := by decide +kernel
theorem dX5_isMore_6 : decode cX5_isMore 6 = .ok (.lload 4, 2) := by decide +kernel
theorem dX5_isMore_8 : decode cX5_isMore 8 = .ok (.lstore 12, 2) := by decide +kernel
theorem dX5_isMore_10 : decode cX5_isMore 10 = .ok (.lload 6, 2) := by decide +kernel
theorem dX5_isMore_12 : decode cX5_isMore 12 = .ok (.lstore 14, 2) := by decide +kernel
theorem dX5_isMore_14 : decode cX5_isMore 14 = .ok (.iconst 0, 1) := by decide +kernel
theorem dX5_isMore_15 : decode cX5_isMore 15 = .ok (.istore 16, 2) := by decide +kernel
theorem dX5_isMore_17 : decode cX5_isMore 17 = .ok (.iconst 0, 1) := by decide +kernel
theorem dX5_isMore_18 : decode cX5_isMore 18 = .ok (.istore 17, 2) := by decide +kernel
theorem dX5_isMore_20 : decode cX5_isMore 20 = .ok (.iload 17, 2) := by decide +kernel
theorem dX5_isMore_22 : decode cX5_isMore 22 = .ok (.sipush 200, 3) := by decide +kernel
theorem dX5_isMore_25 : decode cX5_isMore 25 = .ok (.if_icmp .ge 109, 3) := by decide +kernel
theorem dX5_isMore_28 : decode cX5_isMore 28 = .ok (.lload 10, 2) := by decide +kernel
theorem dX5_isMore_30 : decode cX5_isMore 30 = .ok (.lconst 0, 1) := by decide +kernel
theorem dX5_isMore_31 : decode cX5_isMore 31 = .ok (.lcmp, 1) := by decide +kernel
theorem dX5_isMore_32 : decode cX5_isMore 32 = .ok (.ifCond .eq 102, 3) := by decide +kernel
theorem dX5_isMore_35 : decode cX5_isMore 35 = .ok (.lload 14, 2) := by decide +kernel
theorem dX5_isMore_37 : decode cX5_isMore 37 = .ok (.lconst 0, 1) := by decide +kernel
theorem dX5_isMore_38 : decode cX5_isMore 38 = .ok (.lcmp, 1) := by decide +kernel
theorem dX5_isMore_39 : decode cX5_isMore 39 = .ok (.ifCond .eq 95, 3) := by decide +kernel
theorem dX5_isMore_42 : decode cX5_isMore 42 = .ok (.lload 8, 2) := by decide +kernel
theorem dX5_isMore_44 : decode cX5_isMore 44 = .ok (.lload 10, 2) := by decide +kernel
theorem dX5_isMore_46 : decode cX5_isMore 46 = .ok (.ldiv, 1) := by decide +kernel
theorem dX5_isMore_47 : decode cX5_isMore 47 = .ok (.lload 12, 2) := by decide +kernel
theorem dX5_isMore_49 : decode cX5_isMore 49 = .ok (.lload 14, 2) := by decide +kernel
theorem dX5_isMore_51 : decode cX5_isMore 51 = .ok (.ldiv, 1) := by decide +kernel
theorem dX5_isMore_52 : decode cX5_isMore 52 = .ok (.lcmp, 1) := by decide +kernel
theorem dX5_isMore_53 : decode cX5_isMore 53 = .ok (.ifCond .eq 33, 3) := by decide +kernel
theorem dX5_isMore_56 : decode cX5_isMore 56 = .ok (.lload 8, 2) := by decide +kernel
theorem dX5_isMore_58 : decode cX5_isMore 58 = .ok (.lload 10, 2) := by decide +kernel
theorem dX5_isMore_60 : decode cX5_isMore 60 = .ok (.ldiv, 1) := by decide +kernel
theorem dX5_isMore_61 : decode cX5_isMore 61 = .ok (.lload 12, 2) := by decide +kernel
theorem dX5_isMore_63 : decode cX5_isMore 63 = .ok (.lload 14, 2) := by decide +kernel
theorem dX5_isMore_65 : decode cX5_isMore 65 = .ok (.ldiv, 1) := by decide +kernel
theorem dX5_isMore_66 : decode cX5_isMore 66 = .ok (.lcmp, 1) := by decide +kernel
theorem dX5_isMore_67 : decode cX5_isMore 67 = .ok (.ifCond .le 7, 3) := by decide +kernel
theorem dX5_isMore_70 : decode cX5_isMore 70 = .ok (.iconst 1, 1) := by decide +kernel
theorem dX5_isMore_71 : decode cX5_isMore 71 = .ok (.goto 4, 3) := by decide +kernel
theorem dX5_isMore_74 : decode cX5_isMore 74 = .ok (.iconst 0, 1) := by decide +kernel
theorem dX5_isMore_75 : decode cX5_isMore 75 = .ok (.iload 16, 2) := by decide +kernel
theorem dX5_isMore_77 : decode cX5_isMore 77 = .ok (.if_icmp .eq 7, 3) := by decide +kernel
theorem dX5_isMore_80 : decode cX5_isMore 80 = .ok (.iconst 1, 1) := by decide +kernel
theorem dX5_isMore_81 : decode cX5_isMore 81 = .ok (.goto 4, 3) := by decide +kernel
theorem dX5_isMore_84 : decode cX5_isMore 84 = .ok (.iconst 0, 1) := by decide +kernel
theorem dX5_isMore_85 : decode cX5_isMore 85 = .ok (.ireturn, 1) := by decide +kernel
theorem dX5_isMore_86 : decode cX5_isMore 86 = .ok (.lload 8, 2) := by decide +kernel
theorem dX5_isMore_88 : decode cX5_isMore 88 = .ok (.lload 10, 2) := by decide +kernel
theorem dX5_isMore_90 : decode cX5_isMore 90 = .ok (.lrem, 1) := by decide +kernel
theorem dX5_isMore_91 : decode cX5_isMore 91 = .ok (.lstore 18, 2) := by decide +kernel
theorem dX5_isMore_93 : decode cX5_isMore 93 = .ok (.lload 12, 2) := by decide +kernel
theorem dX5_isMore_95 : decode cX5_isMore 95 = .ok (.lload 14, 2) := by decide +kernel
theorem dX5_isMore_97 : decode cX5_isMore 97 = .ok (.lrem, 1) := by decide +kernel
theorem dX5_isMore_98 : decode cX5_isMore 98 = .ok (.lstore 20, 2) := by decide +kernel
theorem dX5_isMore_100 : decode cX5_isMore 100 = .ok (.lload 10, 2) := by decide +kernel
theorem dX5_isMore_102 : decode cX5_isMore 102 = .ok (.lstore 8, 2) := by decide +kernel
theorem dX5_isMore_104 : decode cX5_isMore 104 = .ok (.lload 18, 2) := by decide +kernel
theorem dX5_isMore_106 : decode cX5_isMore 106 = .ok (.lstore 10, 2) := by decide +kernel
theorem dX5_isMore_108 : decode cX5_isMore 108 = .ok (.lload 14, 2) := by decide +kernel
theorem dX5_isMore_110 : decode cX5_isMore 110 = .ok (.lstore 12, 2) := by decide +kernel
theorem dX5_isMore_112 : decode cX5_isMore 112 = .ok (.lload 20, 2) := by decide +kernel
theorem dX5_isMore_114 : decode cX5_isMore 114 = .ok (.lstore 14, 2) := by decide +kernel
theorem dX5_isMore_116 : decode cX5_isMore 116 = .ok (.iload 16, 2) := by decide +kernel
theorem dX5_isMore_118 : decode cX5_isMore 118 = .ok (.ifCond .ne 7, 3) := by decide +kernel
theorem dX5_isMore_121 : decode cX5_isMore 121 = .ok (.iconst 1, 1) := by decide +kernel
theorem dX5_isMore_122 : decode cX5_isMore 122 = .ok (.goto 4, 3) := by decide +kernel
theorem dX5_isMore_125 : decode cX5_isMore 125 = .ok (.iconst 0, 1) := by decide +kernel
theorem dX5_isMore_126 : decode cX5_isMore 126 = .ok (.istore 16, 2) := by decide +kernel
theorem dX5_isMore_128 : decode cX5_isMore 128 = .ok (.iinc 17 1, 3) := by decide +kernel
theorem dX5_isMore_131 : decode cX5_isMore 131 = .ok (.goto (-111), 3) := by decide +kernel
theorem dX5_isMore_134 : decode cX5_isMore 134 = .ok (.lload 10, 2) := by decide +kernel
theorem dX5_isMore_136 : decode cX5_isMore 136 = .ok (.lconst 0, 1) := by decide +kernel
theorem dX5_isMore_137 : decode cX5_isMore 137 = .ok (.lcmp, 1) := by decide +kernel
theorem dX5_isMore_138 : decode cX5_isMore 138 = .ok (.ifCond .ne 23, 3) := by decide +kernel
theorem dX5_isMore_141 : decode cX5_isMore 141 = .ok (.lload 14, 2) := by decide +kernel
theorem dX5_isMore_143 : decode cX5_isMore 143 = .ok (.lconst 0, 1) := by decide +kernel
theorem dX5_isMore_144 : decode cX5_isMore 144 = .ok (.lcmp, 1) := by decide +kernel
theorem dX5_isMore_145 : decode cX5_isMore 145 = .ok (.ifCond .eq 12, 3) := by decide +kernel
theorem dX5_isMore_148 : decode cX5_isMore 148 = .ok (.iload 16, 2) := by decide +kernel
theorem dX5_isMore_150 : decode cX5_isMore 150 = .ok (.ifCond .ne 7, 3) := by decide +kernel
theorem dX5_isMore_153 : decode cX5_isMore 153 = .ok (.iconst 1, 1) := by decide +kernel
theorem dX5_isMore_154 : decode cX5_isMore 154 = .ok (.goto 24, 3) := by decide +kernel
theorem dX5_isMore_157 : decode cX5_isMore 157 = .ok (.iconst 0, 1) := by decide +kernel
theorem dX5_isMore_158 : decode cX5_isMore 158 = .ok (.goto 20, 3) := by decide +kernel
theorem dX5_isMore_161 : decode cX5_isMore 161 = .ok (.lload 14, 2) := by decide +kernel
theorem dX5_isMore_163 : decode cX5_isMore 163 = .ok (.lconst 0, 1) := by decide +kernel
theorem dX5_isMore_164 : decode cX5_isMore 164 = .ok (.lcmp, 1) := by decide +kernel
theorem dX5_isMore_165 : decode cX5_isMore 165 = .ok (.ifCond .ne 12, 3) := by decide +kernel
theorem dX5_isMore_168 : decode cX5_isMore 168 = .ok (.iload 16, 2) := by decide +kernel
theorem dX5_isMore_170 : decode cX5_isMore 170 = .ok (.ifCond .eq 7, 3) := by decide +kernel
theorem dX5_isMore_173 : decode cX5_isMore 173 = .ok (.iconst 1, 1) := by decide +kernel
theorem dX5_isMore_174 : decode cX5_isMore 174 = .ok (.goto 4, 3) := by decide +kernel
theorem dX5_isMore_177 : decode cX5_isMore 177 = .ok (.iconst 0, 1) := by decide +kernel
theorem dX5_isMore_178 : decode cX5_isMore 178 = .ok (.ireturn, 1) := by decide +kernel
theorem dX6_init_0 : decode cX6_init 0 = .ok (.aload_n 0, 1) := by decide +kernel
theorem dX6_init_1 : decode cX6_init 1 = .ok (.invokespecial 3, 3) := by decide +kernel
theorem dX6_init_4 : decode cX6_init 4 = .ok (.aload_n 0, 1) := by decide +kernel
theorem dX6_init_5 : decode cX6_init 5 = .ok (.bipush 12, 2) := by decide +kernel
theorem dX6_init_7 : decode cX6_init 7 = .ok (.bipush 8, 2) := by decide +kernel
theorem dX6_init_9 : decode cX6_init 9 = .ok (.multianewarray 11 2, 4) := by decide +kernel
theorem dX6_init_13 : decode cX6_init 13 = .ok (.putfield 13, 3) := by decide +kernel
theorem dX6_init_16 : decode cX6_init 16 = .ok (.aload_n 0, 1) := by decide +kernel
theorem dX6_init_17 : decode cX6_init 17 = .ok (.bipush 40, 2) := by decide +kernel
theorem dX6_init_19 : decode cX6_init 19 = .ok (.newarray .int, 2) := by decide +kernel
theorem dX6_init_21 : decode cX6_init 21 = .ok (.putfield 16, 3) := by decide +kernel
theorem dX6_init_24 : decode cX6_init 24 = .ok (.aload_n 0, 1) := by decide +kernel
theorem dX6_init_25 : decode cX6_init 25 = .ok (.bipush 40, 2) := by decide +kernel
theorem dX6_init_27 : decode cX6_init 27 = .ok (.newarray .int, 2) := by decide +kernel
theorem dX6_init_29 : decode cX6_init 29 = .ok (.putfield 20, 3) := by decide +kernel
theorem dX6_init_32 : decode cX6_init 32 = .ok (.aload_n 0, 1) := by decide +kernel
theorem dX6_init_33 : decode cX6_init 33 = .ok (.bipush 40, 2) := by decide +kernel
theorem dX6_init_35 : decode cX6_init 35 = .ok (.newarray .int, 2) := by decide +kernel
theorem dX6_init_37 : decode cX6_init 37 = .ok (.putfield 23, 3) := by decide +kernel
theorem dX6_init_40 : decode cX6_init 40 = .ok (.aload_n 0, 1) := by decide +kernel
theorem dX6_init_41 : decode cX6_init 41 = .ok (.bipush 40, 2) := by decide +kernel
theorem dX6_init_43 : decode cX6_init 43 = .ok (.newarray .int, 2) := by decide +kernel
theorem dX6_init_45 : decode cX6_init 45 = .ok (.putfield 26, 3) := by decide +kernel
theorem dX6_init_48 : decode cX6_init 48 = .ok (.iconst 0, 1) := by decide +kernel
theorem dX6_init_49 : decode cX6_init 49 = .ok (.istore_n 1, 1) := by decide +kernel
theorem dX6_init_50 : decode cX6_init 50 = .ok (.iload_n 1, 1) := by decide +kernel
theorem dX6_init_51 : decode cX6_init 51 = .ok (.bipush 12, 2) := by decide +kernel
theorem dX6_init_53 : decode cX6_init 53 = .ok (.if_icmp .ge 39, 3) := by decide +kernel
theorem dX6_init_56 : decode cX6_init 56 = .ok (.iconst 0, 1) := by decide +kernel
theorem dX6_init_57 : decode cX6_init 57 = .ok (.istore_n 2, 1) := by decide +kernel
theorem dX6_init_58 : decode cX6_init 58 = .ok (.iload_n 2, 1) := by decide +kernel
theorem dX6_init_59 : decode cX6_init 59 = .ok (.getstatic 29, 3) := by decide +kernel
theorem dX6_init_62 : decode cX6_init 62 = .ok (.iload_n 1, 1) := by decide +kernel
theorem dX6_init_63 : decode cX6_init 63 = .ok (.iaload, 1) := by decide +kernel
theorem dX6_init_64 : decode cX6_init 64 = .ok (.if_icmp .ge 22, 3) := by decide +kernel
theorem dX6_init_67 : decode cX6_init 67 = .ok (.aload_n 0, 1) := by decide +kernel
theorem dX6_init_68 : decode cX6_init 68 = .ok (.getfield 13, 3) := by decide +kernel
theorem dX6_init_71 : decode cX6_init 71 = .ok (.iload_n 1, 1) := by decide +kernel
theorem dX6_init_72 : decode cX6_init 72 = .ok (.aaload, 1) := by decide +kernel
theorem dX6_init_73 : decode cX6_init 73 = .ok (.iload_n 2, 1) := by decide +kernel
theorem dX6_init_74 : decode cX6_init 74 = .ok (.getstatic 32, 3) := by decide +kernel
theorem dX6_init_77 : decode cX6_init 77 = .ok (.iload_n 1, 1) := by decide +kernel
theorem dX6_init_78 : decode cX6_init 78 = .ok (.iaload, 1) := by decide +kernel
theorem dX6_init_79 : decode cX6_init 79 = .ok (.iastore, 1) := by decide +kernel
theorem dX6_init_80 : decode cX6_init 80 = .ok (.iinc 2 1, 3) := by decide +kernel
theorem dX6_init_83 : decode cX6_init 83 = .ok (.goto (-25), 3) := by decide +kernel
theorem dX6_init_86 : decode cX6_init 86 = .ok (.iinc 1 1, 3) := by decide +kernel
theorem dX6_init_89 : decode cX6_init 89 = .ok (.goto (-39), 3) := by decide +kernel
theorem dX6_init_92 : decode cX6_init 92 = .ok (.return_, 1) := by decide +kernel
theorem dX6_mayBeCard_0 : decode cX6_mayBeCard 0 = .ok (.iload_n 0, 1) := by decide +kernel
theorem dX6_mayBeCard_1 : decode cX6_mayBeCard 1 = .ok (.bipush 6, 2) := by decide +kernel
theorem dX6_mayBeCard_3 : decode cX6_mayBeCard 3 = .ok (.invokestatic 35, 3) := by decide +kernel
theorem dX6_mayBeCard_6 : decode cX6_mayBeCard 6 = .ok (.ifCond .eq 30, 3) := by decide +kernel
theorem dX6_mayBeCard_9 : decode cX6_mayBeCard 9 = .ok (.iload_n 1, 1) := by decide +kernel
theorem dX6_mayBeCard_10 : decode cX6_mayBeCard 10 = .ok (.bipush 6, 2) := by decide +kernel
theorem dX6_mayBeCard_12 : decode cX6_mayBeCard 12 = .ok (.invokestatic 35, 3) := by decide +kernel
theorem dX6_mayBeCard_15 : decode cX6_mayBeCard 15 = .ok (.ifCond .eq 21, 3) := by decide +kernel
theorem dX6_mayBeCard_18 : decode cX6_mayBeCard 18 = .ok (.iload_n 2, 1) := by decide +kernel
theorem dX6_mayBeCard_19 : decode cX6_mayBeCard 19 = .ok (.getstatic 39, 3) := by decide +kernel
theorem dX6_mayBeCard_22 : decode cX6_mayBeCard 22 = .ok (.iconst 0, 1) := by decide +kernel
theorem dX6_mayBeCard_23 : decode cX6_mayBeCard 23 = .ok (.iaload, 1) := by decide +kernel
theorem dX6_mayBeCard_24 : decode cX6_mayBeCard 24 = .ok (.iconst 1, 1) := by decide +kernel
theorem dX6_mayBeCard_25 : decode cX6_mayBeCard 25 = .ok (.iadd, 1) := by decide +kernel
theorem dX6_mayBeCard_26 : decode cX6_mayBeCard 26 = .ok (.invokestatic 35, 3) := by decide +kernel
theorem dX6_mayBeCard_29 : decode cX6_mayBeCard 29 = .ok (.ifCond .eq 7, 3) := by decide +kernel
theorem dX6_mayBeCard_32 : decode cX6_mayBeCard 32 = .ok (.iconst 1, 1) := by decide +kernel
theorem dX6_mayBeCard_33 : decode cX6_mayBeCard 33 = .ok (.goto 4, 3) := by decide +kernel
theorem dX6_mayBeCard_36 : decode cX6_mayBeCard 36 = .ok (.iconst 0, 1) := by decide +kernel
theorem dX6_mayBeCard_37 : decode cX6_mayBeCard 37 = .ok (.ireturn, 1) := by decide +kernel
theorem dX6_addCard_0 : decode cX6_addCard 0 = .ok (.aload_n 0, 1) := by decide +kernel
theorem dX6_addCard_1 : decode cX6_addCard 1 = .ok (.getfield 42, 3) := by decide +kernel
theorem dX6_addCard_4 : decode cX6_addCard 4 = .ok (.bipush 8, 2) := by decide +kernel
theorem dX6_addCard_6 : decode cX6_addCard 6 = .ok (.if_icmp .lt 6, 3) := by decide +kernel
theorem dX6_addCard_9 : decode cX6_addCard 9 = .ok (.bipush (-3), 2) := by decide +kernel
theorem dX6_addCard_11 : decode cX6_addCard 11 = .ok (.ireturn, 1) := by decide +kernel
theorem dX6_addCard_12 : decode cX6_addCard 12 = .ok (.aload_n 0, 1) := by decide +kernel
theorem dX6_addCard_13 : decode cX6_addCard 13 = .ok (.getfield 13, 3) := by decide +kernel
theorem dX6_addCard_16 : decode cX6_addCard 16 = .ok (.iconst 1, 1) := by decide +kernel
theorem dX6_addCard_17 : decode cX6_addCard 17 = .ok (.aaload, 1) := by decide +kernel
theorem dX6_addCard_18 : decode cX6_addCard 18 = .ok (.aload_n 0, 1) := by decide +kernel
theorem dX6_addCard_19 : decode cX6_addCard 19 = .ok (.getfield 42, 3) := by decide +kernel
theorem dX6_addCard_22 : decode cX6_addCard 22 = .ok (.iload_n 1, 1) := by decide +kernel
theorem dX6_addCard_23 : decode cX6_addCard 23 = .ok (.iastore, 1) := by decide +kernel
theorem dX6_addCard_24 : decode cX6_addCard 24 = .ok (.aload_n 0, 1) := by decide +kernel
theorem dX6_addCard_25 : decode cX6_addCard 25 = .ok (.getfield 13, 3) := by decide +kernel
theorem dX6_addCard_28 : decode cX6_addCard 28 = .ok (.iconst 2, 1) := by decide +kernel
theorem dX6_addCard_29 : decode cX6_addCard 29 = .ok (.aaload, 1) := by decide +kernel
theorem dX6_addCard_30 : decode cX6_addCard 30 = .ok (.aload_n 0, 1) := by decide +kernel
theorem dX6_addCard_31 : decode cX6_addCard 31 = .ok (.getfield 42, 3) := by decide +kernel
theorem dX6_addCard_34 : decode cX6_addCard 34 = .ok (.iload_n 2, 1) := by decide +kernel
theorem dX6_addCard_35 : decode cX6_addCard 35 = .ok (.iastore, 1) := by decide +kernel
theorem dX6_addCard_36 : decode cX6_addCard 36 = .ok (.aload_n 0, 1) := by decide +kernel
theorem dX6_addCard_37 : decode cX6_addCard 37 = .ok (.getfield 13, 3) := by decide +kernel
theorem dX6_addCard_40 : decode cX6_addCard 40 = .ok (.iconst 0, 1) := by decide +kernel
theorem dX6_addCard_41 : decode cX6_addCard 41 = .ok (.aaload, 1) := by decide +kernel
theorem dX6_addCard_42 : decode cX6_addCard 42 = .ok (.aload_n 0, 1) := by decide +kernel
theorem dX6_addCard_43 : decode cX6_addCard 43 = .ok (.getfield 42, 3) := by decide +kernel
theorem dX6_addCard_46 : decode cX6_addCard 46 = .ok (.iload_n 3, 1) := by decide +kernel
theorem dX6_addCard_47 : decode cX6_addCard 47 = .ok (.iastore, 1) := by decide +kernel
theorem dX6_addCard_48 : decode cX6_addCard 48 = .ok (.aload_n 0, 1) := by decide +kernel
theorem dX6_addCard_49 : decode cX6_addCard 49 = .ok (.dup, 1) := by decide +kernel
theorem dX6_addCard_50 : decode cX6_addCard 50 = .ok (.getfield 42, 3) := by decide +kernel
theorem dX6_addCard_53 : decode cX6_addCard 53 = .ok (.iconst 1, 1) := by decide +kernel
theorem dX6_addCard_54 : decode cX6_addCard 54 = .ok (.iadd, 1) := by decide +kernel
theorem dX6_addCard_55 : decode cX6_addCard 55 = .ok (.putfield 42, 3) := by decide +kernel
theorem dX6_addCard_58 : decode cX6_addCard 58 = .ok (.aload_n 0, 1) := by decide +kernel
theorem dX6_addCard_59 : decode cX6_addCard 59 = .ok (.getfield 42, 3) := by decide +kernel
theorem dX6_addCard_62 : decode cX6_addCard 62 = .ok (.iconst 1, 1) := by decide +kernel
theorem dX6_addCard_63 : decode cX6_addCard 63 = .ok (.isub, 1) := by decide +kernel
theorem dX6_addCard_64 : decode cX6_addCard 64 = .ok (.ireturn, 1) := by decide +kernel
theorem dX6_known_0 : decode cX6_known 0 = .ok (.iload_n 2, 1) := by decide +kernel
theorem dX6_known_1 : decode cX6_known 1 = .ok (.bipush 12, 2) := by decide +kernel
theorem dX6_known_3 : decode cX6_known 3 = .ok (.invokestatic 35, 3) := by decide +kernel
theorem dX6_known_6 : decode cX6_known 6 = .ok (.ifCond .eq 31, 3) := by decide +kernel
theorem dX6_known_9 : decode cX6_known 9 = .ok (.iload_n 1, 1) := by decide +kernel
theorem dX6_known_10 : decode cX6_known 10 = .ok (.iload_n 2, 1) := by decide +kernel
theorem dX6_known_11 : decode cX6_known 11 = .ok (.iconst 2, 1) := by decide +kernel
theorem dX6_known_12 : decode cX6_known 12 = .ok (.if_icmp .gt 10, 3) := by decide +kernel
theorem dX6_known_15 : decode cX6_known 15 = .ok (.aload_n 0, 1) := by decide +kernel
theorem dX6_known_16 : decode cX6_known 16 = .ok (.getfield 42, 3) := by decide +kernel
theorem dX6_known_19 : decode cX6_known 19 = .ok (.goto 8, 3) := by decide +kernel
theorem dX6_known_22 : decode cX6_known 22 = .ok (.getstatic 29, 3) := by decide +kernel
theorem dX6_known_25 : decode cX6_known 25 = .ok (.iload_n 2, 1) := by decide +kernel
theorem dX6_known_26 : decode cX6_known 26 = .ok (.iaload, 1) := by decide +kernel
theorem dX6_known_27 : decode cX6_known 27 = .ok (.invokestatic 35, 3) := by decide +kernel
theorem dX6_known_30 : decode cX6_known 30 = .ok (.ifCond .eq 7, 3) := by decide +kernel
theorem dX6_known_33 : decode cX6_known 33 = .ok (.iconst 1, 1) := by decide +kernel
theorem dX6_known_34 : decode cX6_known 34 = .ok (.goto 4, 3) := by decide +kernel
theorem dX6_known_37 : decode cX6_known 37 = .ok (.iconst 0, 1) := by decide +kernel
theorem dX6_known_38 : decode cX6_known 38 = .ok (.ireturn, 1) := by decide +kernel
theorem dX6_colour_0 : decode cX6_colour 0 = .ok (.aload_n 0, 1) := by decide +kernel
theorem dX6_colour_1 : decode cX6_colour 1 = .ok (.getfield 13, 3) := by decide +kernel
theorem dX6_colour_4 : decode cX6_colour 4 = .ok (.iload_n 2, 1) := by decide +kernel
theorem dX6_colour_5 : decode cX6_colour 5 = .ok (.ifCond .ne 7, 3) := by decide +kernel
theorem dX6_colour_8 : decode cX6_colour 8 = .ok (.iconst 1, 1) := by decide +kernel
theorem dX6_colour_9 : decode cX6_colour 9 = .ok (.goto 4, 3) := by decide +kernel
theorem dX6_colour_12 : decode cX6_colour 12 = .ok (.iconst 2, 1) := by decide +kernel
theorem dX6_colour_13 : decode cX6_colour 13 = .ok (.aaload, 1) := by decide +kernel
theorem dX6_colour_14 : decode cX6_colour 14 = .ok (.iload_n 1, 1) := by decide +kernel
theorem dX6_colour_15 : decode cX6_colour 15 = .ok (.iaload, 1) := by decide +kernel
theorem dX6_colour_16 : decode cX6_colour 16 = .ok (.ireturn, 1) := by decide +kernel
theorem dX6_inHat_0 : decode cX6_inHat 0 = .ok (.iconst 0, 1) := by decide +kernel
theorem dX6_inHat_1 : decode cX6_inHat 1 = .ok (.istore_n 1, 1) := by decide +kernel
theorem dX6_inHat_2 : decode cX6_inHat 2 = .ok (.iconst 0, 1) := by decide +kernel
theorem dX6_inHat_3 : decode cX6_inHat 3 = .ok (.istore_n 2, 1) := by decide +kernel
theorem dX6_inHat_4 : decode cX6_inHat 4 = .ok (.iload_n 2, 1) := by decide +kernel
theorem dX6_inHat_5 : decode cX6_inHat 5 = .ok (.aload_n 0, 1) := by decide +kernel
theorem dX6_inHat_6 : decode cX6_inHat 6 = .ok (.getfield 42, 3) := by decide +kernel
theorem dX6_inHat_9 : decode cX6_inHat 9 = .ok (.if_icmp .ge 20, 3) := by decide +kernel
theorem dX6_inHat_12 : decode cX6_inHat 12 = .ok (.iload_n 1, 1) := by decide +kernel
theorem dX6_inHat_13 : decode cX6_inHat 13 = .ok (.aload_n 0, 1) := by decide +kernel
theorem dX6_inHat_14 : decode cX6_inHat 14 = .ok (.getfield 13, 3) := by decide +kernel
theorem dX6_inHat_17 : decode cX6_inHat 17 = .ok (.iconst 0, 1) := by decide +kernel
theorem dX6_inHat_18 : decode cX6_inHat 18 = .ok (.aaload, 1) := by decide +kernel
theorem dX6_inHat_19 : decode cX6_inHat 19 = .ok (.iload_n 2, 1) := by decide +kernel
theorem dX6_inHat_20 : decode cX6_inHat 20 = .ok (.iaload, 1) := by decide +kernel
theorem dX6_inHat_21 : decode cX6_inHat 21 = .ok (.iadd, 1) := by decide +kernel
theorem dX6_inHat_22 : decode cX6_inHat 22 = .ok (.istore_n 1, 1) := by decide +kernel
theorem dX6_inHat_23 : decode cX6_inHat 23 = .ok (.iinc 2 1, 3) := by decide +kernel
theorem dX6_inHat_26 : decode cX6_inHat 26 = .ok (.goto (-22), 3) := by decide +kernel
theorem dX6_inHat_29 : decode cX6_inHat 29 = .ok (.iload_n 1, 1) := by decide +kernel
theorem dX6_inHat_30 : decode cX6_inHat 30 = .ok (.ireturn, 1) := by decide +kernel
theorem dX6_putInHat_0 : decode cX6_putInHat 0 = .ok (.aload_n 0, 1) := by decide +kernel
theorem dX6_putInHat_1 : decode cX6_putInHat 1 = .ok (.getfield 13, 3) := by decide +kernel
theorem dX6_putInHat_4 : decode cX6_putInHat 4 = .ok (.iconst 0, 1) := by decide +kernel
theorem dX6_putInHat_5 : decode cX6_putInHat 5 = .ok (.aaload, 1) := by decide +kernel
theorem dX6_putInHat_6 : decode cX6_putInHat 6 = .ok (.iload_n 1, 1) := by decide +kernel
theorem dX6_putInHat_7 : decode cX6_putInHat 7 = .ok (.getstatic 39, 3) := by decide +kernel
theorem dX6_putInHat_10 : decode cX6_putInHat 10 = .ok (.iconst 0, 1) := by decide +kernel
theorem dX6_putInHat_11 : decode cX6_putInHat 11 = .ok (.iaload, 1) := by decide +kernel
theorem dX6_putInHat_12 : decode cX6_putInHat 12 = .ok (.aload_n 0, 1) := by decide +kernel
theorem dX6_putInHat_13 : decode cX6_putInHat 13 = .ok (.getfield 13, 3) := by decide +kernel
theorem dX6_putInHat_16 : decode cX6_putInHat 16 = .ok (.iconst 0, 1) := by decide +kernel
theorem dX6_putInHat_17 : decode cX6_putInHat 17 = .ok (.aaload, 1) := by decide +kernel
theorem dX6_putInHat_18 : decode cX6_putInHat 18 = .ok (.iload_n 1, 1) := by decide +kernel
theorem dX6_putInHat_19 : decode cX6_putInHat 19 = .ok (.iaload, 1) := by decide +kernel
theorem dX6_putInHat_20 : decode cX6_putInHat 20 = .ok (.iload_n 2, 1) := by decide +kernel
theorem dX6_putInHat_21 : decode cX6_putInHat 21 = .ok (.iadd, 1) := by decide +kernel
theorem dX6_putInHat_22 : decode cX6_putInHat 22 = .ok (.invokestatic 46, 3) := by decide +kernel
theorem dX6_putInHat_25 : decode cX6_putInHat 25 = .ok (.iastore, 1) := by decide +kernel
theorem dX6_putInHat_26 : decode cX6_putInHat 26 = .ok (.return_, 1) := by decide +kernel
theorem dX6_change_0 : decode cX6_change 0 = .ok (.aload_n 0, 1) := by decide +kernel
theorem dX6_change_1 : decode cX6_change 1 = .ok (.getfield 13, 3) := by decide +kernel
theorem dX6_change_4 : decode cX6_change 4 = .ok (.iload_n 2, 1) := by decide +kernel
theorem dX6_change_5 : decode cX6_change 5 = .ok (.aaload, 1) := by decide +kernel
theorem dX6_change_6 : decode cX6_change 6 = .ok (.iload_n 1, 1) := by decide +kernel
theorem dX6_change_7 : decode cX6_change 7 = .ok (.iaload, 1) := by decide +kernel
theorem dX6_change_8 : decode cX6_change 8 = .ok (.istore 4, 2) := by decide +kernel
theorem dX6_change_10 : decode cX6_change 10 = .ok (.iload_n 3, 1) := by decide +kernel
theorem dX6_change_11 : decode cX6_change 11 = .ok (.iload 4, 2) := by decide +kernel
theorem dX6_change_13 : decode cX6_change 13 = .ok (.if_icmp .eq 21, 3) := by decide +kernel
theorem dX6_change_16 : decode cX6_change 16 = .ok (.aload_n 0, 1) := by decide +kernel
theorem dX6_change_17 : decode cX6_change 17 = .ok (.iload_n 1, 1) := by decide +kernel
theorem dX6_change_18 : decode cX6_change 18 = .ok (.iload_n 2, 1) := by decide +kernel
theorem dX6_change_19 : decode cX6_change 19 = .ok (.iload 4, 2) := by decide +kernel
theorem dX6_change_21 : decode cX6_change 21 = .ok (.iload_n 3, 1) := by decide +kernel
theorem dX6_change_22 : decode cX6_change 22 = .ok (.invokevirtual 52, 3) := by decide +kernel
theorem dX6_change_25 : decode cX6_change 25 = .ok (.aload_n 0, 1) := by decide +kernel
theorem dX6_change_26 : decode cX6_change 26 = .ok (.getfield 13, 3) := by decide +kernel
theorem dX6_change_29 : decode cX6_change 29 = .ok (.iload_n 2, 1) := by decide +kernel
theorem dX6_change_30 : decode cX6_change 30 = .ok (.aaload, 1) := by decide +kernel
theorem dX6_change_31 : decode cX6_change 31 = .ok (.iload_n 1, 1) := by decide +kernel
theorem dX6_change_32 : decode cX6_change 32 = .ok (.iload_n 3, 1) := by decide +kernel
theorem dX6_change_33 : decode cX6_change 33 = .ok (.iastore, 1) := by decide +kernel
theorem dX6_change_34 : decode cX6_change 34 = .ok (.iload 4, 2) := by decide +kernel
theorem dX6_change_36 : decode cX6_change 36 = .ok (.ireturn, 1) := by decide +kernel
theorem dX6_keepChange_0 : decode cX6_keepChange 0 = .ok (.aload_n 0, 1) := by decide +kernel
theorem dX6_keepChange_1 : decode cX6_keepChange 1 = .ok (.getfield 56, 3) := by decide +kernel
theorem dX6_keepChange_4 : decode cX6_keepChange 4 = .ok (.bipush 40, 2) := by decide +kernel
theorem dX6_keepChange_6 : decode cX6_keepChange 6 = .ok (.if_icmp .ne 26, 3) := by decide +kernel
theorem dX6_keepChange_9 : decode cX6_keepChange 9 = .ok (.aload_n 0, 1) := by decide +kernel
theorem dX6_keepChange_10 : decode cX6_keepChange 10 = .ok (.aload_n 0, 1) := by decide +kernel
theorem dX6_keepChange_11 : decode cX6_keepChange 11 = .ok (.getfield 59, 3) := by decide +kernel
theorem dX6_keepChange_14 : decode cX6_keepChange 14 = .ok (.iconst 1, 1) := by decide +kernel
theorem dX6_keepChange_15 : decode cX6_keepChange 15 = .ok (.iadd, 1) := by decide +kernel
theorem dX6_keepChange_16 : decode cX6_keepChange 16 = .ok (.bipush 40, 2) := by decide +kernel
theorem dX6_keepChange_18 : decode cX6_keepChange 18 = .ok (.irem, 1) := by decide +kernel
theorem dX6_keepChange_19 : decode cX6_keepChange 19 = .ok (.putfield 59, 3) := by decide +kernel
theorem dX6_keepChange_22 : decode cX6_keepChange 22 = .ok (.aload_n 0, 1) := by decide +kernel
theorem dX6_keepChange_23 : decode cX6_keepChange 23 = .ok (.dup, 1) := by decide +kernel
theorem dX6_keepChange_24 : decode cX6_keepChange 24 = .ok (.getfield 56, 3) := by decide +kernel
theorem dX6_keepChange_27 : decode cX6_keepChange 27 = .ok (.iconst 1, 1) := by decide +kernel
theorem dX6_keepChange_28 : decode cX6_keepChange 28 = .ok (.isub, 1) := by decide +kernel
theorem dX6_keepChange_29 : decode cX6_keepChange 29 = .ok (.putfield 56, 3) := by decide +kernel
theorem dX6_keepChange_32 : decode cX6_keepChange 32 = .ok (.aload_n 0, 1) := by decide +kernel
theorem dX6_keepChange_33 : decode cX6_keepChange 33 = .ok (.getfield 59, 3) := by decide +kernel
theorem dX6_keepChange_36 : decode cX6_keepChange 36 = .ok (.aload_n 0, 1) := by decide +kernel
theorem dX6_keepChange_37 : decode cX6_keepChange 37 = .ok (.getfield 56, 3) := by decide +kernel
theorem dX6_keepChange_40 : decode cX6_keepChange 40 = .ok (.iadd, 1) := by decide +kernel
theorem dX6_keepChange_41 : decode cX6_keepChange 41 = .ok (.bipush 40, 2) := by decide +kernel
theorem dX6_keepChange_43 : decode cX6_keepChange 43 = .ok (.irem, 1) := by decide +kernel
theorem dX6_keepChange_44 : decode cX6_keepChange 44 = .ok (.istore 5, 2) := by decide +kernel
theorem dX6_keepChange_46 : decode cX6_keepChange 46 = .ok (.aload_n 0, 1) := by decide +kernel
theorem dX6_keepChange_47 : decode cX6_keepChange 47 = .ok (.getfield 16, 3) := by decide +kernel
theorem dX6_keepChange_50 : decode cX6_keepChange 50 = .ok (.iload 5, 2) := by decide +kernel
theorem dX6_keepChange_52 : decode cX6_keepChange 52 = .ok (.iload_n 1, 1) := by decide +kernel
theorem dX6_keepChange_53 : decode cX6_keepChange 53 = .ok (.iastore, 1) := by decide +kernel
theorem dX6_keepChange_54 : decode cX6_keepChange 54 = .ok (.aload_n 0, 1) := by decide +kernel
theorem dX6_keepChange_55 : decode cX6_keepChange 55 = .ok (.getfield 20, 3) := by decide +kernel
theorem dX6_keepChange_58 : decode cX6_keepChange 58 = .ok (.iload 5, 2) := by decide +kernel
theorem dX6_keepChange_60 : decode cX6_keepChange 60 = .ok (.iload_n 2, 1) := by decide +kernel
theorem dX6_keepChange_61 : decode cX6_keepChange 61 = .ok (.iastore, 1) := by decide +kernel
theorem dX6_keepChange_62 : decode cX6_keepChange 62 = .ok (.aload_n 0, 1) := by decide +kernel
theorem dX6_keepChange_63 : decode cX6_keepChange 63 = .ok (.getfield 23, 3) := by decide +kernel
theorem dX6_keepChange_66 : decode cX6_keepChange 66 = .ok (.iload 5, 2) := by decide +kernel
theorem dX6_keepChange_68 : decode cX6_keepChange 68 = .ok (.iload_n 3, 1) := by decide +kernel
theorem dX6_keepChange_69 : decode cX6_keepChange 69 = .ok (.iastore, 1) := by decide +kernel
theorem dX6_keepChange_70 : decode cX6_keepChange 70 = .ok (.aload_n 0, 1) := by decide +kernel
theorem dX6_keepChange_71 : decode cX6_keepChange 71 = .ok (.getfield 26, 3) := by decide +kernel
theorem dX6_keepChange_74 : decode cX6_keepChange 74 = .ok (.iload 5, 2) := by decide +kernel
theorem dX6_keepChange_76 : decode cX6_keepChange 76 = .ok (.iload 4, 2) := by decide +kernel
theorem dX6_keepChange_78 : decode cX6_keepChange 78 = .ok (.iastore, 1) := by decide +kernel
theorem dX6_keepChange_79 : decode cX6_keepChange 79 = .ok (.aload_n 0, 1) := by decide +kernel
theorem dX6_keepChange_80 : decode cX6_keepChange 80 = .ok (.dup, 1) := by decide +kernel
theorem dX6_keepChange_81 : decode cX6_keepChange 81 = .ok (.getfield 56, 3) := by decide +kernel
theorem dX6_keepChange_84 : decode cX6_keepChange 84 = .ok (.iconst 1, 1) := by decide +kernel
theorem dX6_keepChange_85 : decode cX6_keepChange 85 = .ok (.iadd, 1) := by decide +kernel
theorem dX6_keepChange_86 : decode cX6_keepChange 86 = .ok (.putfield 56, 3) := by decide +kernel
theorem dX6_keepChange_89 : decode cX6_keepChange 89 = .ok (.aload_n 0, 1) := by decide +kernel
theorem dX6_keepChange_90 : decode cX6_keepChange 90 = .ok (.iconst 0, 1) := by decide +kernel
theorem dX6_keepChange_91 : decode cX6_keepChange 91 = .ok (.putfield 62, 3) := by decide +kernel
theorem dX6_keepChange_94 : decode cX6_keepChange 94 = .ok (.return_, 1) := by decide +kernel
