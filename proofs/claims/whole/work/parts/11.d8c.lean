theorem dX8_order_48 : decode cX8_order 48 = .ok (.invokestatic 287, 3) := by decide +kernel
theorem dX8_order_51 : decode cX8_order 51 = .ok (.lmul, 1) := by decide +kernel
theorem dX8_order_52 : decode cX8_order 52 = .ok (.iload_n 2, 1) := by decide +kernel
theorem dX8_order_53 : decode cX8_order 53 = .ok (.invokestatic 299, 3) := by decide +kernel
theorem dX8_order_56 : decode cX8_order 56 = .ok (.goto 10, 3) := by decide +kernel
theorem dX8_order_59 : decode cX8_order 59 = .ok (.aload_n 0, 1) := by decide +kernel
theorem dX8_order_60 : decode cX8_order 60 = .ok (.getfield 102, 3) := by decide +kernel
theorem dX8_order_63 : decode cX8_order 63 = .ok (.iload_n 1, 1) := by decide +kernel
theorem dX8_order_64 : decode cX8_order 64 = .ok (.iaload, 1) := by decide +kernel
theorem dX8_order_65 : decode cX8_order 65 = .ok (.i2l, 1) := by decide +kernel
theorem dX8_order_66 : decode cX8_order 66 = .ok (.lreturn, 1) := by decide +kernel
theorem dX8_isSo_0 : decode cX8_isSo 0 = .ok (.iload_n 1, 1) := by decide +kernel
theorem dX8_isSo_1 : decode cX8_isSo 1 = .ok (.ifCond .lt 31, 3) := by decide +kernel
theorem dX8_isSo_4 : decode cX8_isSo 4 = .ok (.iload_n 1, 1) := by decide +kernel
theorem dX8_isSo_5 : decode cX8_isSo 5 = .ok (.sipush 4096, 3) := by decide +kernel
theorem dX8_isSo_8 : decode cX8_isSo 8 = .ok (.if_icmp .ge 24, 3) := by decide +kernel
theorem dX8_isSo_11 : decode cX8_isSo 11 = .ok (.iload_n 1, 1) := by decide +kernel
theorem dX8_isSo_12 : decode cX8_isSo 12 = .ok (.bipush 6, 2) := by decide +kernel
theorem dX8_isSo_14 : decode cX8_isSo 14 = .ok (.ishr, 1) := by decide +kernel
theorem dX8_isSo_15 : decode cX8_isSo 15 = .ok (.iload_n 1, 1) := by decide +kernel
theorem dX8_isSo_16 : decode cX8_isSo 16 = .ok (.bipush 63, 2) := by decide +kernel
theorem dX8_isSo_18 : decode cX8_isSo 18 = .ok (.iand, 1) := by decide +kernel
theorem dX8_isSo_19 : decode cX8_isSo 19 = .ok (.iconst (-1), 1) := by decide +kernel
theorem dX8_isSo_20 : decode cX8_isSo 20 = .ok (.ixor, 1) := by decide +kernel
theorem dX8_isSo_21 : decode cX8_isSo 21 = .ok (.iand, 1) := by decide +kernel
theorem dX8_isSo_22 : decode cX8_isSo 22 = .ok (.ifCond .ne 10, 3) := by decide +kernel
theorem dX8_isSo_25 : decode cX8_isSo 25 = .ok (.iload_n 2, 1) := by decide +kernel
theorem dX8_isSo_26 : decode cX8_isSo 26 = .ok (.invokestatic 291, 3) := by decide +kernel
theorem dX8_isSo_29 : decode cX8_isSo 29 = .ok (.ifCond .ne 7, 3) := by decide +kernel
theorem dX8_isSo_32 : decode cX8_isSo 32 = .ok (.ldc2_w 294, 3) := by decide +kernel
theorem dX8_isSo_35 : decode cX8_isSo 35 = .ok (.lreturn, 1) := by decide +kernel
theorem dX8_isSo_36 : decode cX8_isSo 36 = .ok (.aload_n 0, 1) := by decide +kernel
theorem dX8_isSo_37 : decode cX8_isSo 37 = .ok (.getfield 46, 3) := by decide +kernel
theorem dX8_isSo_40 : decode cX8_isSo 40 = .ok (.i2l, 1) := by decide +kernel
theorem dX8_isSo_41 : decode cX8_isSo 41 = .ok (.lstore_n 3, 1) := by decide +kernel
theorem dX8_isSo_42 : decode cX8_isSo 42 = .ok (.bipush 12, 2) := by decide +kernel
theorem dX8_isSo_44 : decode cX8_isSo 44 = .ok (.aload_n 0, 1) := by decide +kernel
theorem dX8_isSo_45 : decode cX8_isSo 45 = .ok (.getfield 46, 3) := by decide +kernel
theorem dX8_isSo_48 : decode cX8_isSo 48 = .ok (.isub, 1) := by decide +kernel
theorem dX8_isSo_49 : decode cX8_isSo 49 = .ok (.i2l, 1) := by decide +kernel
theorem dX8_isSo_50 : decode cX8_isSo 50 = .ok (.lstore 5, 2) := by decide +kernel
theorem dX8_isSo_52 : decode cX8_isSo 52 = .ok (.iconst 0, 1) := by decide +kernel
theorem dX8_isSo_53 : decode cX8_isSo 53 = .ok (.istore 7, 2) := by decide +kernel
theorem dX8_isSo_55 : decode cX8_isSo 55 = .ok (.iload 7, 2) := by decide +kernel
theorem dX8_isSo_57 : decode cX8_isSo 57 = .ok (.bipush 6, 2) := by decide +kernel
theorem dX8_isSo_59 : decode cX8_isSo 59 = .ok (.if_icmp .ge 103, 3) := by decide +kernel
theorem dX8_isSo_62 : decode cX8_isSo 62 = .ok (.iload_n 1, 1) := by decide +kernel
theorem dX8_isSo_63 : decode cX8_isSo 63 = .ok (.iload 7, 2) := by decide +kernel
theorem dX8_isSo_65 : decode cX8_isSo 65 = .ok (.ishr, 1) := by decide +kernel
theorem dX8_isSo_66 : decode cX8_isSo 66 = .ok (.iconst 1, 1) := by decide +kernel
theorem dX8_isSo_67 : decode cX8_isSo 67 = .ok (.iand, 1) := by decide +kernel
theorem dX8_isSo_68 : decode cX8_isSo 68 = .ok (.ifCond .ne 6, 3) := by decide +kernel
theorem dX8_isSo_71 : decode cX8_isSo 71 = .ok (.goto 85, 3) := by decide +kernel
theorem dX8_isSo_74 : decode cX8_isSo 74 = .ok (.iload_n 1, 1) := by decide +kernel
theorem dX8_isSo_75 : decode cX8_isSo 75 = .ok (.bipush 6, 2) := by decide +kernel
theorem dX8_isSo_77 : decode cX8_isSo 77 = .ok (.iload 7, 2) := by decide +kernel
theorem dX8_isSo_79 : decode cX8_isSo 79 = .ok (.iadd, 1) := by decide +kernel
theorem dX8_isSo_80 : decode cX8_isSo 80 = .ok (.ishr, 1) := by decide +kernel
theorem dX8_isSo_81 : decode cX8_isSo 81 = .ok (.iconst 1, 1) := by decide +kernel
theorem dX8_isSo_82 : decode cX8_isSo 82 = .ok (.iand, 1) := by decide +kernel
theorem dX8_isSo_83 : decode cX8_isSo 83 = .ok (.iconst 1, 1) := by decide +kernel
theorem dX8_isSo_84 : decode cX8_isSo 84 = .ok (.if_icmp .ne 7, 3) := by decide +kernel
theorem dX8_isSo_87 : decode cX8_isSo 87 = .ok (.iconst 1, 1) := by decide +kernel
theorem dX8_isSo_88 : decode cX8_isSo 88 = .ok (.goto 4, 3) := by decide +kernel
theorem dX8_isSo_91 : decode cX8_isSo 91 = .ok (.iconst 0, 1) := by decide +kernel
theorem dX8_isSo_92 : decode cX8_isSo 92 = .ok (.istore 8, 2) := by decide +kernel
theorem dX8_isSo_94 : decode cX8_isSo 94 = .ok (.lload_n 3, 1) := by decide +kernel
theorem dX8_isSo_95 : decode cX8_isSo 95 = .ok (.iload 8, 2) := by decide +kernel
theorem dX8_isSo_97 : decode cX8_isSo 97 = .ok (.ifCond .eq 17, 3) := by decide +kernel
theorem dX8_isSo_100 : decode cX8_isSo 100 = .ok (.bipush 12, 2) := by decide +kernel
theorem dX8_isSo_102 : decode cX8_isSo 102 = .ok (.aload_n 0, 1) := by decide +kernel
theorem dX8_isSo_103 : decode cX8_isSo 103 = .ok (.getfield 39, 3) := by decide +kernel
theorem dX8_isSo_106 : decode cX8_isSo 106 = .ok (.iload 7, 2) := by decide +kernel
theorem dX8_isSo_108 : decode cX8_isSo 108 = .ok (.iaload, 1) := by decide +kernel
theorem dX8_isSo_109 : decode cX8_isSo 109 = .ok (.isub, 1) := by decide +kernel
theorem dX8_isSo_110 : decode cX8_isSo 110 = .ok (.i2l, 1) := by decide +kernel
theorem dX8_isSo_111 : decode cX8_isSo 111 = .ok (.goto 11, 3) := by decide +kernel
theorem dX8_isSo_114 : decode cX8_isSo 114 = .ok (.aload_n 0, 1) := by decide +kernel
theorem dX8_isSo_115 : decode cX8_isSo 115 = .ok (.getfield 39, 3) := by decide +kernel
theorem dX8_isSo_118 : decode cX8_isSo 118 = .ok (.iload 7, 2) := by decide +kernel
theorem dX8_isSo_120 : decode cX8_isSo 120 = .ok (.iaload, 1) := by decide +kernel
theorem dX8_isSo_121 : decode cX8_isSo 121 = .ok (.i2l, 1) := by decide +kernel
theorem dX8_isSo_122 : decode cX8_isSo 122 = .ok (.lmul, 1) := by decide +kernel
theorem dX8_isSo_123 : decode cX8_isSo 123 = .ok (.lstore_n 3, 1) := by decide +kernel
theorem dX8_isSo_124 : decode cX8_isSo 124 = .ok (.lload 5, 2) := by decide +kernel
theorem dX8_isSo_126 : decode cX8_isSo 126 = .ok (.iload 8, 2) := by decide +kernel
theorem dX8_isSo_128 : decode cX8_isSo 128 = .ok (.ifCond .eq 14, 3) := by decide +kernel
theorem dX8_isSo_131 : decode cX8_isSo 131 = .ok (.aload_n 0, 1) := by decide +kernel
theorem dX8_isSo_132 : decode cX8_isSo 132 = .ok (.getfield 39, 3) := by decide +kernel
theorem dX8_isSo_135 : decode cX8_isSo 135 = .ok (.iload 7, 2) := by decide +kernel
theorem dX8_isSo_137 : decode cX8_isSo 137 = .ok (.iaload, 1) := by decide +kernel
theorem dX8_isSo_138 : decode cX8_isSo 138 = .ok (.i2l, 1) := by decide +kernel
theorem dX8_isSo_139 : decode cX8_isSo 139 = .ok (.goto 14, 3) := by decide +kernel
theorem dX8_isSo_142 : decode cX8_isSo 142 = .ok (.bipush 12, 2) := by decide +kernel
theorem dX8_isSo_144 : decode cX8_isSo 144 = .ok (.aload_n 0, 1) := by decide +kernel
theorem dX8_isSo_145 : decode cX8_isSo 145 = .ok (.getfield 39, 3) := by decide +kernel
theorem dX8_isSo_148 : decode cX8_isSo 148 = .ok (.iload 7, 2) := by decide +kernel
theorem dX8_isSo_150 : decode cX8_isSo 150 = .ok (.iaload, 1) := by decide +kernel
theorem dX8_isSo_151 : decode cX8_isSo 151 = .ok (.isub, 1) := by decide +kernel
theorem dX8_isSo_152 : decode cX8_isSo 152 = .ok (.i2l, 1) := by decide +kernel
theorem dX8_isSo_153 : decode cX8_isSo 153 = .ok (.lmul, 1) := by decide +kernel
theorem dX8_isSo_154 : decode cX8_isSo 154 = .ok (.lstore 5, 2) := by decide +kernel
theorem dX8_isSo_156 : decode cX8_isSo 156 = .ok (.iinc 7 1, 3) := by decide +kernel
theorem dX8_isSo_159 : decode cX8_isSo 159 = .ok (.goto (-104), 3) := by decide +kernel
theorem dX8_isSo_162 : decode cX8_isSo 162 = .ok (.lload_n 3, 1) := by decide +kernel
theorem dX8_isSo_163 : decode cX8_isSo 163 = .ok (.lload_n 3, 1) := by decide +kernel
theorem dX8_isSo_164 : decode cX8_isSo 164 = .ok (.lload 5, 2) := by decide +kernel
theorem dX8_isSo_166 : decode cX8_isSo 166 = .ok (.ladd, 1) := by decide +kernel
theorem dX8_isSo_167 : decode cX8_isSo 167 = .ok (.iload_n 2, 1) := by decide +kernel
theorem dX8_isSo_168 : decode cX8_isSo 168 = .ok (.invokestatic 299, 3) := by decide +kernel
theorem dX8_isSo_171 : decode cX8_isSo 171 = .ok (.lreturn, 1) := by decide +kernel
theorem dX8_tooMany_0 : decode cX8_tooMany 0 = .ok (.iload_n 1, 1) := by decide +kernel
theorem dX8_tooMany_1 : decode cX8_tooMany 1 = .ok (.iconst 0, 1) := by decide +kernel
theorem dX8_tooMany_2 : decode cX8_tooMany 2 = .ok (.bipush 63, 2) := by decide +kernel
theorem dX8_tooMany_4 : decode cX8_tooMany 4 = .ok (.invokestatic 148, 3) := by decide +kernel
theorem dX8_tooMany_7 : decode cX8_tooMany 7 = .ok (.ifCond .eq 10, 3) := by decide +kernel
theorem dX8_tooMany_10 : decode cX8_tooMany 10 = .ok (.iload_n 2, 1) := by decide +kernel
theorem dX8_tooMany_11 : decode cX8_tooMany 11 = .ok (.invokestatic 291, 3) := by decide +kernel
theorem dX8_tooMany_14 : decode cX8_tooMany 14 = .ok (.ifCond .ne 7, 3) := by decide +kernel
theorem dX8_tooMany_17 : decode cX8_tooMany 17 = .ok (.ldc2_w 294, 3) := by decide +kernel
theorem dX8_tooMany_20 : decode cX8_tooMany 20 = .ok (.lreturn, 1) := by decide +kernel
theorem dX8_tooMany_21 : decode cX8_tooMany 21 = .ok (.iload_n 1, 1) := by decide +kernel
theorem dX8_tooMany_22 : decode cX8_tooMany 22 = .ok (.ifCond .ne 5, 3) := by decide +kernel
theorem dX8_tooMany_25 : decode cX8_tooMany 25 = .ok (.lconst 1, 1) := by decide +kernel
theorem dX8_tooMany_26 : decode cX8_tooMany 26 = .ok (.lreturn, 1) := by decide +kernel
theorem dX8_tooMany_27 : decode cX8_tooMany 27 = .ok (.lconst 1, 1) := by decide +kernel
theorem dX8_tooMany_28 : decode cX8_tooMany 28 = .ok (.lstore_n 3, 1) := by decide +kernel
theorem dX8_tooMany_29 : decode cX8_tooMany 29 = .ok (.lconst 1, 1) := by decide +kernel
theorem dX8_tooMany_30 : decode cX8_tooMany 30 = .ok (.lstore 5, 2) := by decide +kernel
theorem dX8_tooMany_32 : decode cX8_tooMany 32 = .ok (.lconst 1, 1) := by decide +kernel
theorem dX8_tooMany_33 : decode cX8_tooMany 33 = .ok (.lstore 7, 2) := by decide +kernel
theorem dX8_tooMany_35 : decode cX8_tooMany 35 = .ok (.iconst 0, 1) := by decide +kernel
theorem dX8_tooMany_36 : decode cX8_tooMany 36 = .ok (.istore 9, 2) := by decide +kernel
theorem dX8_tooMany_38 : decode cX8_tooMany 38 = .ok (.iload 9, 2) := by decide +kernel
theorem dX8_tooMany_40 : decode cX8_tooMany 40 = .ok (.bipush 6, 2) := by decide +kernel
theorem dX8_tooMany_42 : decode cX8_tooMany 42 = .ok (.if_icmp .ge 56, 3) := by decide +kernel
theorem dX8_tooMany_45 : decode cX8_tooMany 45 = .ok (.iload_n 1, 1) := by decide +kernel
theorem dX8_tooMany_46 : decode cX8_tooMany 46 = .ok (.iload 9, 2) := by decide +kernel
theorem dX8_tooMany_48 : decode cX8_tooMany 48 = .ok (.ishr, 1) := by decide +kernel
theorem dX8_tooMany_49 : decode cX8_tooMany 49 = .ok (.iconst 1, 1) := by decide +kernel
theorem dX8_tooMany_50 : decode cX8_tooMany 50 = .ok (.iand, 1) := by decide +kernel
theorem dX8_tooMany_51 : decode cX8_tooMany 51 = .ok (.ifCond .ne 6, 3) := by decide +kernel
theorem dX8_tooMany_54 : decode cX8_tooMany 54 = .ok (.goto 38, 3) := by decide +kernel
theorem dX8_tooMany_57 : decode cX8_tooMany 57 = .ok (.lload_n 3, 1) := by decide +kernel
theorem dX8_tooMany_58 : decode cX8_tooMany 58 = .ok (.bipush 12, 2) := by decide +kernel
theorem dX8_tooMany_60 : decode cX8_tooMany 60 = .ok (.aload_n 0, 1) := by decide +kernel
theorem dX8_tooMany_61 : decode cX8_tooMany 61 = .ok (.getfield 39, 3) := by decide +kernel
theorem dX8_tooMany_64 : decode cX8_tooMany 64 = .ok (.iload 9, 2) := by decide +kernel
theorem dX8_tooMany_66 : decode cX8_tooMany 66 = .ok (.iaload, 1) := by decide +kernel
theorem dX8_tooMany_67 : decode cX8_tooMany 67 = .ok (.isub, 1) := by decide +kernel
theorem dX8_tooMany_68 : decode cX8_tooMany 68 = .ok (.i2l, 1) := by decide +kernel
theorem dX8_tooMany_69 : decode cX8_tooMany 69 = .ok (.lmul, 1) := by decide +kernel
theorem dX8_tooMany_70 : decode cX8_tooMany 70 = .ok (.lstore_n 3, 1) := by decide +kernel
theorem dX8_tooMany_71 : decode cX8_tooMany 71 = .ok (.lload 5, 2) := by decide +kernel
theorem dX8_tooMany_73 : decode cX8_tooMany 73 = .ok (.aload_n 0, 1) := by decide +kernel
theorem dX8_tooMany_74 : decode cX8_tooMany 74 = .ok (.getfield 39, 3) := by decide +kernel
theorem dX8_tooMany_77 : decode cX8_tooMany 77 = .ok (.iload 9, 2) := by decide +kernel
theorem dX8_tooMany_79 : decode cX8_tooMany 79 = .ok (.iaload, 1) := by decide +kernel
theorem dX8_tooMany_80 : decode cX8_tooMany 80 = .ok (.i2l, 1) := by decide +kernel
theorem dX8_tooMany_81 : decode cX8_tooMany 81 = .ok (.lmul, 1) := by decide +kernel
theorem dX8_tooMany_82 : decode cX8_tooMany 82 = .ok (.lstore 5, 2) := by decide +kernel
theorem dX8_tooMany_84 : decode cX8_tooMany 84 = .ok (.lload 7, 2) := by decide +kernel
theorem dX8_tooMany_86 : decode cX8_tooMany 86 = .ok (.ldc2_w 320, 3) := by decide +kernel
theorem dX8_tooMany_89 : decode cX8_tooMany 89 = .ok (.lmul, 1) := by decide +kernel
theorem dX8_tooMany_90 : decode cX8_tooMany 90 = .ok (.lstore 7, 2) := by decide +kernel
theorem dX8_tooMany_92 : decode cX8_tooMany 92 = .ok (.iinc 9 1, 3) := by decide +kernel
theorem dX8_tooMany_95 : decode cX8_tooMany 95 = .ok (.goto (-57), 3) := by decide +kernel
theorem dX8_tooMany_98 : decode cX8_tooMany 98 = .ok (.lload_n 3, 1) := by decide +kernel
theorem dX8_tooMany_99 : decode cX8_tooMany 99 = .ok (.lload 5, 2) := by decide +kernel
theorem dX8_tooMany_101 : decode cX8_tooMany 101 = .ok (.ladd, 1) := by decide +kernel
theorem dX8_tooMany_102 : decode cX8_tooMany 102 = .ok (.lload 7, 2) := by decide +kernel
theorem dX8_tooMany_104 : decode cX8_tooMany 104 = .ok (.iload_n 2, 1) := by decide +kernel
theorem dX8_tooMany_105 : decode cX8_tooMany 105 = .ok (.invokestatic 299, 3) := by decide +kernel
theorem dX8_tooMany_108 : decode cX8_tooMany 108 = .ok (.lreturn, 1) := by decide +kernel
theorem dX8_next_0 : decode cX8_next 0 = .ok (.iload_n 1, 1) := by decide +kernel
theorem dX8_next_1 : decode cX8_next 1 = .ok (.ifCond .lt 21, 3) := by decide +kernel
theorem dX8_next_4 : decode cX8_next 4 = .ok (.iload_n 1, 1) := by decide +kernel
theorem dX8_next_5 : decode cX8_next 5 = .ok (.bipush 100, 2) := by decide +kernel
theorem dX8_next_7 : decode cX8_next 7 = .ok (.idiv, 1) := by decide +kernel
theorem dX8_next_8 : decode cX8_next 8 = .ok (.iload_n 1, 1) := by decide +kernel
theorem dX8_next_9 : decode cX8_next 9 = .ok (.bipush 100, 2) := by decide +kernel
theorem dX8_next_11 : decode cX8_next 11 = .ok (.irem, 1) := by decide +kernel
theorem dX8_next_12 : decode cX8_next 12 = .ok (.if_icmp .gt 10, 3) := by decide +kernel
theorem dX8_next_15 : decode cX8_next 15 = .ok (.iload_n 2, 1) := by decide +kernel
theorem dX8_next_16 : decode cX8_next 16 = .ok (.invokestatic 291, 3) := by decide +kernel
theorem dX8_next_19 : decode cX8_next 19 = .ok (.ifCond .ne 7, 3) := by decide +kernel
theorem dX8_next_22 : decode cX8_next 22 = .ok (.ldc2_w 294, 3) := by decide +kernel
theorem dX8_next_25 : decode cX8_next 25 = .ok (.lreturn, 1) := by decide +kernel
theorem dX8_next_26 : decode cX8_next 26 = .ok (.iload_n 1, 1) := by decide +kernel
theorem dX8_next_27 : decode cX8_next 27 = .ok (.bipush 100, 2) := by decide +kernel
theorem dX8_next_29 : decode cX8_next 29 = .ok (.idiv, 1) := by decide +kernel
theorem dX8_next_30 : decode cX8_next 30 = .ok (.iconst 1, 1) := by decide +kernel
theorem dX8_next_31 : decode cX8_next 31 = .ok (.iadd, 1) := by decide +kernel
theorem dX8_next_32 : decode cX8_next 32 = .ok (.i2l, 1) := by decide +kernel
theorem dX8_next_33 : decode cX8_next 33 = .ok (.iload_n 1, 1) := by decide +kernel
theorem dX8_next_34 : decode cX8_next 34 = .ok (.bipush 100, 2) := by decide +kernel
theorem dX8_next_36 : decode cX8_next 36 = .ok (.irem, 1) := by decide +kernel
theorem dX8_next_37 : decode cX8_next 37 = .ok (.iconst 2, 1) := by decide +kernel
theorem dX8_next_38 : decode cX8_next 38 = .ok (.iadd, 1) := by decide +kernel
theorem dX8_next_39 : decode cX8_next 39 = .ok (.i2l, 1) := by decide +kernel
theorem dX8_next_40 : decode cX8_next 40 = .ok (.iload_n 2, 1) := by decide +kernel
theorem dX8_next_41 : decode cX8_next 41 = .ok (.invokestatic 299, 3) := by decide +kernel
theorem dX8_next_44 : decode cX8_next 44 = .ok (.lreturn, 1) := by decide +kernel
theorem dX8_leastLoss_0 : decode cX8_leastLoss 0 = .ok (.iconst 0, 1) := by decide +kernel
theorem dX8_leastLoss_1 : decode cX8_leastLoss 1 = .ok (.istore_n 1, 1) := by decide +kernel
theorem dX8_leastLoss_2 : decode cX8_leastLoss 2 = .ok (.iconst 0, 1) := by decide +kernel
theorem dX8_leastLoss_3 : decode cX8_leastLoss 3 = .ok (.istore_n 2, 1) := by decide +kernel
theorem dX8_leastLoss_4 : decode cX8_leastLoss 4 = .ok (.iload_n 2, 1) := by decide +kernel
theorem dX8_leastLoss_5 : decode cX8_leastLoss 5 = .ok (.iconst 3, 1) := by decide +kernel
theorem dX8_leastLoss_6 : decode cX8_leastLoss 6 = .ok (.if_icmp .ge 25, 3) := by decide +kernel
theorem dX8_leastLoss_9 : decode cX8_leastLoss 9 = .ok (.iload_n 1, 1) := by decide +kernel
theorem dX8_leastLoss_10 : decode cX8_leastLoss 10 = .ok (.aload_n 0, 1) := by decide +kernel
theorem dX8_leastLoss_11 : decode cX8_leastLoss 11 = .ok (.getfield 105, 3) := by decide +kernel
theorem dX8_leastLoss_14 : decode cX8_leastLoss 14 = .ok (.iload_n 2, 1) := by decide +kernel
theorem dX8_leastLoss_15 : decode cX8_leastLoss 15 = .ok (.iaload, 1) := by decide +kernel
theorem dX8_leastLoss_16 : decode cX8_leastLoss 16 = .ok (.aload_n 0, 1) := by decide +kernel
theorem dX8_leastLoss_17 : decode cX8_leastLoss 17 = .ok (.getfield 49, 3) := by decide +kernel
theorem dX8_leastLoss_20 : decode cX8_leastLoss 20 = .ok (.iload_n 2, 1) := by decide +kernel
theorem dX8_leastLoss_21 : decode cX8_leastLoss 21 = .ok (.iaload, 1) := by decide +kernel
theorem dX8_leastLoss_22 : decode cX8_leastLoss 22 = .ok (.imul, 1) := by decide +kernel
theorem dX8_leastLoss_23 : decode cX8_leastLoss 23 = .ok (.iadd, 1) := by decide +kernel
theorem dX8_leastLoss_24 : decode cX8_leastLoss 24 = .ok (.istore_n 1, 1) := by decide +kernel
theorem dX8_leastLoss_25 : decode cX8_leastLoss 25 = .ok (.iinc 2 1, 3) := by decide +kernel
theorem dX8_leastLoss_28 : decode cX8_leastLoss 28 = .ok (.goto (-24), 3) := by decide +kernel
theorem dX8_leastLoss_31 : decode cX8_leastLoss 31 = .ok (.bipush 12, 2) := by decide +kernel
theorem dX8_leastLoss_33 : decode cX8_leastLoss 33 = .ok (.aload_n 0, 1) := by decide +kernel
theorem dX8_leastLoss_34 : decode cX8_leastLoss 34 = .ok (.getfield 105, 3) := by decide +kernel
theorem dX8_leastLoss_37 : decode cX8_leastLoss 37 = .ok (.iconst 0, 1) := by decide +kernel
theorem dX8_leastLoss_38 : decode cX8_leastLoss 38 = .ok (.iaload, 1) := by decide +kernel
theorem dX8_leastLoss_39 : decode cX8_leastLoss 39 = .ok (.imul, 1) := by decide +kernel
theorem dX8_leastLoss_40 : decode cX8_leastLoss 40 = .ok (.iload_n 1, 1) := by decide +kernel
theorem dX8_leastLoss_41 : decode cX8_leastLoss 41 = .ok (.isub, 1) := by decide +kernel
theorem dX8_leastLoss_42 : decode cX8_leastLoss 42 = .ok (.istore_n 2, 1) := by decide +kernel
theorem dX8_leastLoss_43 : decode cX8_leastLoss 43 = .ok (.iconst 1, 1) := by decide +kernel
theorem dX8_leastLoss_44 : decode cX8_leastLoss 44 = .ok (.istore_n 3, 1) := by decide +kernel
theorem dX8_leastLoss_45 : decode cX8_leastLoss 45 = .ok (.iload_n 3, 1) := by decide +kernel
theorem dX8_leastLoss_46 : decode cX8_leastLoss 46 = .ok (.iconst 3, 1) := by decide +kernel
theorem dX8_leastLoss_47 : decode cX8_leastLoss 47 = .ok (.if_icmp .ge 36, 3) := by decide +kernel
theorem dX8_leastLoss_50 : decode cX8_leastLoss 50 = .ok (.bipush 12, 2) := by decide +kernel
theorem dX8_leastLoss_52 : decode cX8_leastLoss 52 = .ok (.aload_n 0, 1) := by decide +kernel
theorem dX8_leastLoss_53 : decode cX8_leastLoss 53 = .ok (.getfield 105, 3) := by decide +kernel
theorem dX8_leastLoss_56 : decode cX8_leastLoss 56 = .ok (.iload_n 3, 1) := by decide +kernel
theorem dX8_leastLoss_57 : decode cX8_leastLoss 57 = .ok (.iaload, 1) := by decide +kernel
theorem dX8_leastLoss_58 : decode cX8_leastLoss 58 = .ok (.imul, 1) := by decide +kernel
theorem dX8_leastLoss_59 : decode cX8_leastLoss 59 = .ok (.iload_n 1, 1) := by decide +kernel
theorem dX8_leastLoss_60 : decode cX8_leastLoss 60 = .ok (.isub, 1) := by decide +kernel
theorem dX8_leastLoss_61 : decode cX8_leastLoss 61 = .ok (.iload_n 2, 1) := by decide +kernel
theorem dX8_leastLoss_62 : decode cX8_leastLoss 62 = .ok (.if_icmp .ge 15, 3) := by decide +kernel
theorem dX8_leastLoss_65 : decode cX8_leastLoss 65 = .ok (.bipush 12, 2) := by decide +kernel
theorem dX8_leastLoss_67 : decode cX8_leastLoss 67 = .ok (.aload_n 0, 1) := by decide +kernel
theorem dX8_leastLoss_68 : decode cX8_leastLoss 68 = .ok (.getfield 105, 3) := by decide +kernel
theorem dX8_leastLoss_71 : decode cX8_leastLoss 71 = .ok (.iload_n 3, 1) := by decide +kernel
theorem dX8_leastLoss_72 : decode cX8_leastLoss 72 = .ok (.iaload, 1) := by decide +kernel
theorem dX8_leastLoss_73 : decode cX8_leastLoss 73 = .ok (.imul, 1) := by decide +kernel
theorem dX8_leastLoss_74 : decode cX8_leastLoss 74 = .ok (.iload_n 1, 1) := by decide +kernel
theorem dX8_leastLoss_75 : decode cX8_leastLoss 75 = .ok (.isub, 1) := by decide +kernel
theorem dX8_leastLoss_76 : decode cX8_leastLoss 76 = .ok (.istore_n 2, 1) := by decide +kernel
theorem dX8_leastLoss_77 : decode cX8_leastLoss 77 = .ok (.iinc 3 1, 3) := by decide +kernel
theorem dX8_leastLoss_80 : decode cX8_leastLoss 80 = .ok (.goto (-35), 3) := by decide +kernel
theorem dX8_leastLoss_83 : decode cX8_leastLoss 83 = .ok (.iload_n 2, 1) := by decide +kernel
theorem dX8_leastLoss_84 : decode cX8_leastLoss 84 = .ok (.ireturn, 1) := by decide +kernel
theorem dX8_sure_0 : decode cX8_sure 0 = .ok (.iload_n 1, 1) := by decide +kernel
theorem dX8_sure_1 : decode cX8_sure 1 = .ok (.iconst (-1), 1) := by decide +kernel
theorem dX8_sure_2 : decode cX8_sure 2 = .ok (.iconst 2, 1) := by decide +kernel
theorem dX8_sure_3 : decode cX8_sure 3 = .ok (.invokestatic 148, 3) := by decide +kernel
theorem dX8_sure_6 : decode cX8_sure 6 = .ok (.ifCond .ne 7, 3) := by decide +kernel
theorem dX8_sure_9 : decode cX8_sure 9 = .ok (.ldc_w 337, 3) := by decide +kernel
theorem dX8_sure_12 : decode cX8_sure 12 = .ok (.ireturn, 1) := by decide +kernel
theorem dX8_sure_13 : decode cX8_sure 13 = .ok (.iconst 0, 1) := by decide +kernel
theorem dX8_sure_14 : decode cX8_sure 14 = .ok (.istore_n 2, 1) := by decide +kernel
theorem dX8_sure_15 : decode cX8_sure 15 = .ok (.iconst 0, 1) := by decide +kernel
theorem dX8_sure_16 : decode cX8_sure 16 = .ok (.istore_n 3, 1) := by decide +kernel
theorem dX8_sure_17 : decode cX8_sure 17 = .ok (.iload_n 3, 1) := by decide +kernel
theorem dX8_sure_18 : decode cX8_sure 18 = .ok (.iconst 3, 1) := by decide +kernel
theorem dX8_sure_19 : decode cX8_sure 19 = .ok (.if_icmp .ge 16, 3) := by decide +kernel
theorem dX8_sure_22 : decode cX8_sure 22 = .ok (.aload_n 0, 1) := by decide +kernel
theorem dX8_sure_23 : decode cX8_sure 23 = .ok (.getfield 108, 3) := by decide +kernel
theorem dX8_sure_26 : decode cX8_sure 26 = .ok (.iload_n 3, 1) := by decide +kernel
theorem dX8_sure_27 : decode cX8_sure 27 = .ok (.iconst 0, 1) := by decide +kernel
theorem dX8_sure_28 : decode cX8_sure 28 = .ok (.iastore, 1) := by decide +kernel
theorem dX8_sure_29 : decode cX8_sure 29 = .ok (.iinc 3 1, 3) := by decide +kernel
theorem dX8_sure_32 : decode cX8_sure 32 = .ok (.goto (-15), 3) := by decide +kernel
theorem dX8_sure_35 : decode cX8_sure 35 = .ok (.aload_n 0, 1) := by decide +kernel
theorem dX8_sure_36 : decode cX8_sure 36 = .ok (.getfield 105, 3) := by decide +kernel
theorem dX8_sure_39 : decode cX8_sure 39 = .ok (.iconst 0, 1) := by decide +kernel
theorem dX8_sure_40 : decode cX8_sure 40 = .ok (.bipush (-5), 2) := by decide +kernel
theorem dX8_sure_42 : decode cX8_sure 42 = .ok (.iastore, 1) := by decide +kernel
theorem dX8_sure_43 : decode cX8_sure 43 = .ok (.aload_n 0, 1) := by decide +kernel
theorem dX8_sure_44 : decode cX8_sure 44 = .ok (.getfield 105, 3) := by decide +kernel
theorem dX8_sure_47 : decode cX8_sure 47 = .ok (.iconst 0, 1) := by decide +kernel
theorem dX8_sure_48 : decode cX8_sure 48 = .ok (.iaload, 1) := by decide +kernel
theorem dX8_sure_49 : decode cX8_sure 49 = .ok (.iconst 5, 1) := by decide +kernel
theorem dX8_sure_50 : decode cX8_sure 50 = .ok (.if_icmp .gt 122, 3) := by decide +kernel
theorem dX8_sure_53 : decode cX8_sure 53 = .ok (.aload_n 0, 1) := by decide +kernel
theorem dX8_sure_54 : decode cX8_sure 54 = .ok (.getfield 105, 3) := by decide +kernel
theorem dX8_sure_57 : decode cX8_sure 57 = .ok (.iconst 1, 1) := by decide +kernel
theorem dX8_sure_58 : decode cX8_sure 58 = .ok (.bipush (-5), 2) := by decide +kernel
theorem dX8_sure_60 : decode cX8_sure 60 = .ok (.iastore, 1) := by decide +kernel
theorem dX8_sure_61 : decode cX8_sure 61 = .ok (.aload_n 0, 1) := by decide +kernel
theorem dX8_sure_62 : decode cX8_sure 62 = .ok (.getfield 105, 3) := by decide +kernel
theorem dX8_sure_65 : decode cX8_sure 65 = .ok (.iconst 1, 1) := by decide +kernel
theorem dX8_sure_66 : decode cX8_sure 66 = .ok (.iaload, 1) := by decide +kernel
theorem dX8_sure_67 : decode cX8_sure 67 = .ok (.iconst 5, 1) := by decide +kernel
theorem dX8_sure_68 : decode cX8_sure 68 = .ok (.if_icmp .gt 91, 3) := by decide +kernel
theorem dX8_sure_71 : decode cX8_sure 71 = .ok (.aload_n 0, 1) := by decide +kernel
theorem dX8_sure_72 : decode cX8_sure 72 = .ok (.getfield 105, 3) := by decide +kernel
theorem dX8_sure_75 : decode cX8_sure 75 = .ok (.iconst 2, 1) := by decide +kernel
theorem dX8_sure_76 : decode cX8_sure 76 = .ok (.bipush (-5), 2) := by decide +kernel
theorem dX8_sure_78 : decode cX8_sure 78 = .ok (.iastore, 1) := by decide +kernel
theorem dX8_sure_79 : decode cX8_sure 79 = .ok (.aload_n 0, 1) := by decide +kernel
theorem dX8_sure_80 : decode cX8_sure 80 = .ok (.getfield 105, 3) := by decide +kernel
theorem dX8_sure_83 : decode cX8_sure 83 = .ok (.iconst 2, 1) := by decide +kernel
theorem dX8_sure_84 : decode cX8_sure 84 = .ok (.iaload, 1) := by decide +kernel
theorem dX8_sure_85 : decode cX8_sure 85 = .ok (.iconst 5, 1) := by decide +kernel
theorem dX8_sure_86 : decode cX8_sure 86 = .ok (.if_icmp .gt 60, 3) := by decide +kernel
theorem dX8_sure_89 : decode cX8_sure 89 = .ok (.aload_n 0, 1) := by decide +kernel
theorem dX8_sure_90 : decode cX8_sure 90 = .ok (.invokevirtual 338, 3) := by decide +kernel
theorem dX8_sure_93 : decode cX8_sure 93 = .ok (.istore_n 3, 1) := by decide +kernel
theorem dX8_sure_94 : decode cX8_sure 94 = .ok (.iload_n 3, 1) := by decide +kernel
theorem dX8_sure_95 : decode cX8_sure 95 = .ok (.iload_n 2, 1) := by decide +kernel
theorem dX8_sure_96 : decode cX8_sure 96 = .ok (.if_icmp .gt 6, 3) := by decide +kernel
theorem dX8_sure_99 : decode cX8_sure 99 = .ok (.goto 34, 3) := by decide +kernel
theorem dX8_sure_102 : decode cX8_sure 102 = .ok (.iload_n 3, 1) := by decide +kernel
theorem dX8_sure_103 : decode cX8_sure 103 = .ok (.istore_n 2, 1) := by decide +kernel
theorem dX8_sure_104 : decode cX8_sure 104 = .ok (.iconst 0, 1) := by decide +kernel
theorem dX8_sure_105 : decode cX8_sure 105 = .ok (.istore 4, 2) := by decide +kernel
theorem dX8_sure_107 : decode cX8_sure 107 = .ok (.iload 4, 2) := by decide +kernel
theorem dX8_sure_109 : decode cX8_sure 109 = .ok (.iconst 3, 1) := by decide +kernel
theorem dX8_sure_110 : decode cX8_sure 110 = .ok (.if_icmp .ge 23, 3) := by decide +kernel
theorem dX8_sure_113 : decode cX8_sure 113 = .ok (.aload_n 0, 1) := by decide +kernel
theorem dX8_sure_114 : decode cX8_sure 114 = .ok (.getfield 108, 3) := by decide +kernel
theorem dX8_sure_117 : decode cX8_sure 117 = .ok (.iload 4, 2) := by decide +kernel
theorem dX8_sure_119 : decode cX8_sure 119 = .ok (.aload_n 0, 1) := by decide +kernel
theorem dX8_sure_120 : decode cX8_sure 120 = .ok (.getfield 105, 3) := by decide +kernel
theorem dX8_sure_123 : decode cX8_sure 123 = .ok (.iload 4, 2) := by decide +kernel
theorem dX8_sure_125 : decode cX8_sure 125 = .ok (.iaload, 1) := by decide +kernel
theorem dX8_sure_126 : decode cX8_sure 126 = .ok (.iastore, 1) := by decide +kernel
theorem dX8_sure_127 : decode cX8_sure 127 = .ok (.iinc 4 1, 3) := by decide +kernel
theorem dX8_sure_130 : decode cX8_sure 130 = .ok (.goto (-23), 3) := by decide +kernel
theorem dX8_sure_133 : decode cX8_sure 133 = .ok (.aload_n 0, 1) := by decide +kernel
theorem dX8_sure_134 : decode cX8_sure 134 = .ok (.getfield 105, 3) := by decide +kernel
theorem dX8_sure_137 : decode cX8_sure 137 = .ok (.iconst 2, 1) := by decide +kernel
theorem dX8_sure_138 : decode cX8_sure 138 = .ok (.dup2, 1) := by decide +kernel
theorem dX8_sure_139 : decode cX8_sure 139 = .ok (.iaload, 1) := by decide +kernel
theorem dX8_sure_140 : decode cX8_sure 140 = .ok (.iconst 1, 1) := by decide +kernel
theorem dX8_sure_141 : decode cX8_sure 141 = .ok (.iadd, 1) := by decide +kernel
theorem dX8_sure_142 : decode cX8_sure 142 = .ok (.iastore, 1) := by decide +kernel
theorem dX8_sure_143 : decode cX8_sure 143 = .ok (.goto (-64), 3) := by decide +kernel
theorem dX8_sure_146 : decode cX8_sure 146 = .ok (.aload_n 0, 1) := by decide +kernel
theorem dX8_sure_147 : decode cX8_sure 147 = .ok (.getfield 105, 3) := by decide +kernel
theorem dX8_sure_150 : decode cX8_sure 150 = .ok (.iconst 1, 1) := by decide +kernel
theorem dX8_sure_151 : decode cX8_sure 151 = .ok (.dup2, 1) := by decide +kernel
theorem dX8_sure_152 : decode cX8_sure 152 = .ok (.iaload, 1) := by decide +kernel
theorem dX8_sure_153 : decode cX8_sure 153 = .ok (.iconst 1, 1) := by decide +kernel
theorem dX8_sure_154 : decode cX8_sure 154 = .ok (.iadd, 1) := by decide +kernel
theorem dX8_sure_155 : decode cX8_sure 155 = .ok (.iastore, 1) := by decide +kernel
theorem dX8_sure_156 : decode cX8_sure 156 = .ok (.goto (-95), 3) := by decide +kernel
theorem dX8_sure_159 : decode cX8_sure 159 = .ok (.aload_n 0, 1) := by decide +kernel
theorem dX8_sure_160 : decode cX8_sure 160 = .ok (.getfield 105, 3) := by decide +kernel
theorem dX8_sure_163 : decode cX8_sure 163 = .ok (.iconst 0, 1) := by decide +kernel
theorem dX8_sure_164 : decode cX8_sure 164 = .ok (.dup2, 1) := by decide +kernel
theorem dX8_sure_165 : decode cX8_sure 165 = .ok (.iaload, 1) := by decide +kernel
theorem dX8_sure_166 : decode cX8_sure 166 = .ok (.iconst 1, 1) := by decide +kernel
theorem dX8_sure_167 : decode cX8_sure 167 = .ok (.iadd, 1) := by decide +kernel
theorem dX8_sure_168 : decode cX8_sure 168 = .ok (.iastore, 1) := by decide +kernel
theorem dX8_sure_169 : decode cX8_sure 169 = .ok (.goto (-126), 3) := by decide +kernel
theorem dX8_sure_172 : decode cX8_sure 172 = .ok (.iload_n 1, 1) := by decide +kernel
theorem dX8_sure_173 : decode cX8_sure 173 = .ok (.ifCond .lt 10, 3) := by decide +kernel
theorem dX8_sure_176 : decode cX8_sure 176 = .ok (.aload_n 0, 1) := by decide +kernel
theorem dX8_sure_177 : decode cX8_sure 177 = .ok (.getfield 108, 3) := by decide +kernel
theorem dX8_sure_180 : decode cX8_sure 180 = .ok (.iload_n 1, 1) := by decide +kernel
theorem dX8_sure_181 : decode cX8_sure 181 = .ok (.iaload, 1) := by decide +kernel
theorem dX8_sure_182 : decode cX8_sure 182 = .ok (.ireturn, 1) := by decide +kernel
theorem dX8_sure_183 : decode cX8_sure 183 = .ok (.iload_n 2, 1) := by decide +kernel
theorem dX8_sure_184 : decode cX8_sure 184 = .ok (.ifCond .ne 8, 3) := by decide +kernel
theorem dX8_sure_187 : decode cX8_sure 187 = .ok (.bipush (-2), 2) := by decide +kernel
theorem dX8_sure_189 : decode cX8_sure 189 = .ok (.goto 4, 3) := by decide +kernel
theorem dX8_sure_192 : decode cX8_sure 192 = .ok (.iload_n 2, 1) := by decide +kernel
theorem dX8_sure_193 : decode cX8_sure 193 = .ok (.ireturn, 1) := by decide +kernel
theorem dX8_drawOne_0 : decode cX8_drawOne 0 = .ok (.aload_n 0, 1) := by decide +kernel
theorem dX8_drawOne_1 : decode cX8_drawOne 1 = .ok (.aload_n 0, 1) := by decide +kernel
theorem dX8_drawOne_2 : decode cX8_drawOne 2 = .ok (.getfield 341, 3) := by decide +kernel
theorem dX8_drawOne_5 : decode cX8_drawOne 5 = .ok (.ldc_w 344, 3) := by decide +kernel
theorem dX8_drawOne_8 : decode cX8_drawOne 8 = .ok (.imul, 1) := by decide +kernel
theorem dX8_drawOne_9 : decode cX8_drawOne 9 = .ok (.sipush 12345, 3) := by decide +kernel
theorem dX8_drawOne_12 : decode cX8_drawOne 12 = .ok (.iadd, 1) := by decide +kernel
theorem dX8_drawOne_13 : decode cX8_drawOne 13 = .ok (.putfield 341, 3) := by decide +kernel
theorem dX8_drawOne_16 : decode cX8_drawOne 16 = .ok (.aload_n 0, 1) := by decide +kernel
theorem dX8_drawOne_17 : decode cX8_drawOne 17 = .ok (.getfield 341, 3) := by decide +kernel
theorem dX8_drawOne_20 : decode cX8_drawOne 20 = .ok (.bipush 8, 2) := by decide +kernel
theorem dX8_drawOne_22 : decode cX8_drawOne 22 = .ok (.iushr, 1) := by decide +kernel
theorem dX8_drawOne_23 : decode cX8_drawOne 23 = .ok (.iload_n 1, 1) := by decide +kernel
theorem dX8_drawOne_24 : decode cX8_drawOne 24 = .ok (.irem, 1) := by decide +kernel
theorem dX8_drawOne_25 : decode cX8_drawOne 25 = .ok (.ireturn, 1) := by decide +kernel
theorem dX8_show_0 : decode cX8_show 0 = .ok (.aload_n 0, 1) := by decide +kernel
theorem dX8_show_1 : decode cX8_show 1 = .ok (.aload_n 0, 1) := by decide +kernel
theorem dX8_show_2 : decode cX8_show 2 = .ok (.invokevirtual 196, 3) := by decide +kernel
theorem dX8_show_5 : decode cX8_show 5 = .ok (.invokevirtual 345, 3) := by decide +kernel
theorem dX8_show_8 : decode cX8_show 8 = .ok (.istore_n 1, 1) := by decide +kernel
theorem dX8_show_9 : decode cX8_show 9 = .ok (.iconst 0, 1) := by decide +kernel
theorem dX8_show_10 : decode cX8_show 10 = .ok (.istore_n 2, 1) := by decide +kernel
theorem dX8_show_11 : decode cX8_show 11 = .ok (.iload_n 1, 1) := by decide +kernel
theorem dX8_show_12 : decode cX8_show 12 = .ok (.aload_n 0, 1) := by decide +kernel
theorem dX8_show_13 : decode cX8_show 13 = .ok (.getfield 9, 3) := by decide +kernel
theorem dX8_show_16 : decode cX8_show 16 = .ok (.iload_n 2, 1) := by decide +kernel
theorem dX8_show_17 : decode cX8_show 17 = .ok (.iaload, 1) := by decide +kernel
theorem dX8_show_18 : decode cX8_show 18 = .ok (.if_icmp .lt 18, 3) := by decide +kernel
theorem dX8_show_21 : decode cX8_show 21 = .ok (.iload_n 1, 1) := by decide +kernel
theorem dX8_show_22 : decode cX8_show 22 = .ok (.aload_n 0, 1) := by decide +kernel
theorem dX8_show_23 : decode cX8_show 23 = .ok (.getfield 9, 3) := by decide +kernel
theorem dX8_show_26 : decode cX8_show 26 = .ok (.iload_n 2, 1) := by decide +kernel
theorem dX8_show_27 : decode cX8_show 27 = .ok (.iaload, 1) := by decide +kernel
theorem dX8_show_28 : decode cX8_show 28 = .ok (.isub, 1) := by decide +kernel
theorem dX8_show_29 : decode cX8_show 29 = .ok (.istore_n 1, 1) := by decide +kernel
theorem dX8_show_30 : decode cX8_show 30 = .ok (.iinc 2 1, 3) := by decide +kernel
theorem dX8_show_33 : decode cX8_show 33 = .ok (.goto (-22), 3) := by decide +kernel
theorem dX8_show_36 : decode cX8_show 36 = .ok (.aload_n 0, 1) := by decide +kernel
theorem dX8_show_37 : decode cX8_show 37 = .ok (.iload_n 2, 1) := by decide +kernel
theorem dX8_show_38 : decode cX8_show 38 = .ok (.putfield 348, 3) := by decide +kernel
theorem dX8_show_41 : decode cX8_show 41 = .ok (.aload_n 0, 1) := by decide +kernel
theorem dX8_show_42 : decode cX8_show 42 = .ok (.aload_n 0, 1) := by decide +kernel
theorem dX8_show_43 : decode cX8_show 43 = .ok (.iload_n 2, 1) := by decide +kernel
theorem dX8_show_44 : decode cX8_show 44 = .ok (.invokevirtual 280, 3) := by decide +kernel
theorem dX8_show_47 : decode cX8_show 47 = .ok (.invokevirtual 345, 3) := by decide +kernel
theorem dX8_show_50 : decode cX8_show 50 = .ok (.aload_n 0, 1) := by decide +kernel
theorem dX8_show_51 : decode cX8_show 51 = .ok (.getfield 96, 3) := by decide +kernel
theorem dX8_show_54 : decode cX8_show 54 = .ok (.iconst 2, 1) := by decide +kernel
theorem dX8_show_55 : decode cX8_show 55 = .ok (.iload_n 2, 1) := by decide +kernel
theorem dX8_show_56 : decode cX8_show 56 = .ok (.imul, 1) := by decide +kernel
theorem dX8_show_57 : decode cX8_show 57 = .ok (.iaload, 1) := by decide +kernel
theorem dX8_show_58 : decode cX8_show 58 = .ok (.if_icmp .ge 22, 3) := by decide +kernel
theorem dX8_show_61 : decode cX8_show 61 = .ok (.bipush 10, 2) := by decide +kernel
theorem dX8_show_63 : decode cX8_show 63 = .ok (.aload_n 0, 1) := by decide +kernel
theorem dX8_show_64 : decode cX8_show 64 = .ok (.getfield 15, 3) := by decide +kernel
theorem dX8_show_67 : decode cX8_show 67 = .ok (.iload_n 2, 1) := by decide +kernel
theorem dX8_show_68 : decode cX8_show 68 = .ok (.iaload, 1) := by decide +kernel
theorem dX8_show_69 : decode cX8_show 69 = .ok (.imul, 1) := by decide +kernel
theorem dX8_show_70 : decode cX8_show 70 = .ok (.aload_n 0, 1) := by decide +kernel
theorem dX8_show_71 : decode cX8_show 71 = .ok (.getfield 18, 3) := by decide +kernel
theorem dX8_show_74 : decode cX8_show 74 = .ok (.iload_n 2, 1) := by decide +kernel
theorem dX8_show_75 : decode cX8_show 75 = .ok (.iaload, 1) := by decide +kernel
theorem dX8_show_76 : decode cX8_show 76 = .ok (.iadd, 1) := by decide +kernel
theorem dX8_show_77 : decode cX8_show 77 = .ok (.goto 19, 3) := by decide +kernel
theorem dX8_show_80 : decode cX8_show 80 = .ok (.bipush 10, 2) := by decide +kernel
theorem dX8_show_82 : decode cX8_show 82 = .ok (.aload_n 0, 1) := by decide +kernel
theorem dX8_show_83 : decode cX8_show 83 = .ok (.getfield 18, 3) := by decide +kernel
theorem dX8_show_86 : decode cX8_show 86 = .ok (.iload_n 2, 1) := by decide +kernel
theorem dX8_show_87 : decode cX8_show 87 = .ok (.iaload, 1) := by decide +kernel
theorem dX8_show_88 : decode cX8_show 88 = .ok (.imul, 1) := by decide +kernel
theorem dX8_show_89 : decode cX8_show 89 = .ok (.aload_n 0, 1) := by decide +kernel
theorem dX8_show_90 : decode cX8_show 90 = .ok (.getfield 15, 3) := by decide +kernel
theorem dX8_show_93 : decode cX8_show 93 = .ok (.iload_n 2, 1) := by decide +kernel
theorem dX8_show_94 : decode cX8_show 94 = .ok (.iaload, 1) := by decide +kernel
theorem dX8_show_95 : decode cX8_show 95 = .ok (.iadd, 1) := by decide +kernel
theorem dX8_show_96 : decode cX8_show 96 = .ok (.ireturn, 1) := by decide +kernel
theorem dX8_drawn_0 : decode cX8_drawn 0 = .ok (.iload_n 2, 1) := by decide +kernel
theorem dX8_drawn_1 : decode cX8_drawn 1 = .ok (.iconst 1, 1) := by decide +kernel
theorem dX8_drawn_2 : decode cX8_drawn 2 = .ok (.bipush 60, 2) := by decide +kernel
theorem dX8_drawn_4 : decode cX8_drawn 4 = .ok (.invokestatic 148, 3) := by decide +kernel
theorem dX8_drawn_7 : decode cX8_drawn 7 = .ok (.ifCond .eq 38, 3) := by decide +kernel
theorem dX8_drawn_10 : decode cX8_drawn 10 = .ok (.iload_n 3, 1) := by decide +kernel
theorem dX8_drawn_11 : decode cX8_drawn 11 = .ok (.ifCond .lt 34, 3) := by decide +kernel
theorem dX8_drawn_14 : decode cX8_drawn 14 = .ok (.iload_n 3, 1) := by decide +kernel
theorem dX8_drawn_15 : decode cX8_drawn 15 = .ok (.bipush 100, 2) := by decide +kernel
theorem dX8_drawn_17 : decode cX8_drawn 17 = .ok (.idiv, 1) := by decide +kernel
theorem dX8_drawn_18 : decode cX8_drawn 18 = .ok (.invokestatic 152, 3) := by decide +kernel
theorem dX8_drawn_21 : decode cX8_drawn 21 = .ok (.ifCond .eq 24, 3) := by decide +kernel
theorem dX8_drawn_24 : decode cX8_drawn 24 = .ok (.iload_n 3, 1) := by decide +kernel
theorem dX8_drawn_25 : decode cX8_drawn 25 = .ok (.bipush 10, 2) := by decide +kernel
theorem dX8_drawn_27 : decode cX8_drawn 27 = .ok (.idiv, 1) := by decide +kernel
theorem dX8_drawn_28 : decode cX8_drawn 28 = .ok (.bipush 10, 2) := by decide +kernel
theorem dX8_drawn_30 : decode cX8_drawn 30 = .ok (.irem, 1) := by decide +kernel
theorem dX8_drawn_31 : decode cX8_drawn 31 = .ok (.invokestatic 152, 3) := by decide +kernel
theorem dX8_drawn_34 : decode cX8_drawn 34 = .ok (.ifCond .eq 11, 3) := by decide +kernel
theorem dX8_drawn_37 : decode cX8_drawn 37 = .ok (.iload_n 3, 1) := by decide +kernel
theorem dX8_drawn_38 : decode cX8_drawn 38 = .ok (.bipush 10, 2) := by decide +kernel
theorem dX8_drawn_40 : decode cX8_drawn 40 = .ok (.irem, 1) := by decide +kernel
theorem dX8_drawn_41 : decode cX8_drawn 41 = .ok (.iconst 1, 1) := by decide +kernel
theorem dX8_drawn_42 : decode cX8_drawn 42 = .ok (.if_icmp .le 5, 3) := by decide +kernel
theorem dX8_drawn_45 : decode cX8_drawn 45 = .ok (.iconst (-1), 1) := by decide +kernel
theorem dX8_drawn_46 : decode cX8_drawn 46 = .ok (.ireturn, 1) := by decide +kernel
theorem dX8_drawn_47 : decode cX8_drawn 47 = .ok (.aload_n 0, 1) := by decide +kernel
theorem dX8_drawn_48 : decode cX8_drawn 48 = .ok (.invokevirtual 196, 3) := by decide +kernel
theorem dX8_drawn_51 : decode cX8_drawn 51 = .ok (.ifCond .ne 6, 3) := by decide +kernel
theorem dX8_drawn_54 : decode cX8_drawn 54 = .ok (.bipush (-5), 2) := by decide +kernel
theorem dX8_drawn_56 : decode cX8_drawn 56 = .ok (.ireturn, 1) := by decide +kernel
theorem dX8_drawn_57 : decode cX8_drawn 57 = .ok (.aload_n 0, 1) := by decide +kernel
theorem dX8_drawn_58 : decode cX8_drawn 58 = .ok (.invokevirtual 275, 3) := by decide +kernel
theorem dX8_drawn_61 : decode cX8_drawn 61 = .ok (.aload_n 0, 1) := by decide +kernel
theorem dX8_drawn_62 : decode cX8_drawn 62 = .ok (.iload_n 1, 1) := by decide +kernel
theorem dX8_drawn_63 : decode cX8_drawn 63 = .ok (.putfield 341, 3) := by decide +kernel
theorem dX8_drawn_66 : decode cX8_drawn 66 = .ok (.iconst 0, 1) := by decide +kernel
theorem dX8_drawn_67 : decode cX8_drawn 67 = .ok (.istore 4, 2) := by decide +kernel
theorem dX8_drawn_69 : decode cX8_drawn 69 = .ok (.iconst 0, 1) := by decide +kernel
theorem dX8_drawn_70 : decode cX8_drawn 70 = .ok (.istore 5, 2) := by decide +kernel
theorem dX8_drawn_72 : decode cX8_drawn 72 = .ok (.iload 5, 2) := by decide +kernel
theorem dX8_drawn_74 : decode cX8_drawn 74 = .ok (.iload_n 2, 1) := by decide +kernel
theorem dX8_drawn_75 : decode cX8_drawn 75 = .ok (.if_icmp .ge 52, 3) := by decide +kernel
theorem dX8_drawn_78 : decode cX8_drawn 78 = .ok (.aload_n 0, 1) := by decide +kernel
theorem dX8_drawn_79 : decode cX8_drawn 79 = .ok (.invokevirtual 351, 3) := by decide +kernel
theorem dX8_drawn_82 : decode cX8_drawn 82 = .ok (.istore 6, 2) := by decide +kernel
theorem dX8_drawn_84 : decode cX8_drawn 84 = .ok (.iload 6, 2) := by decide +kernel
theorem dX8_drawn_86 : decode cX8_drawn 86 = .ok (.bipush 10, 2) := by decide +kernel
theorem dX8_drawn_88 : decode cX8_drawn 88 = .ok (.idiv, 1) := by decide +kernel
theorem dX8_drawn_89 : decode cX8_drawn 89 = .ok (.iload_n 3, 1) := by decide +kernel
theorem dX8_drawn_90 : decode cX8_drawn 90 = .ok (.bipush 100, 2) := by decide +kernel
theorem dX8_drawn_92 : decode cX8_drawn 92 = .ok (.idiv, 1) := by decide +kernel
theorem dX8_drawn_93 : decode cX8_drawn 93 = .ok (.if_icmp .ne 28, 3) := by decide +kernel
theorem dX8_drawn_96 : decode cX8_drawn 96 = .ok (.iload_n 3, 1) := by decide +kernel
theorem dX8_drawn_97 : decode cX8_drawn 97 = .ok (.bipush 10, 2) := by decide +kernel
theorem dX8_drawn_99 : decode cX8_drawn 99 = .ok (.irem, 1) := by decide +kernel
theorem dX8_drawn_100 : decode cX8_drawn 100 = .ok (.ifCond .eq 18, 3) := by decide +kernel
theorem dX8_drawn_103 : decode cX8_drawn 103 = .ok (.iload 6, 2) := by decide +kernel
theorem dX8_drawn_105 : decode cX8_drawn 105 = .ok (.bipush 10, 2) := by decide +kernel
theorem dX8_drawn_107 : decode cX8_drawn 107 = .ok (.irem, 1) := by decide +kernel
theorem dX8_drawn_108 : decode cX8_drawn 108 = .ok (.iload_n 3, 1) := by decide +kernel
theorem dX8_drawn_109 : decode cX8_drawn 109 = .ok (.bipush 10, 2) := by decide +kernel
theorem dX8_drawn_111 : decode cX8_drawn 111 = .ok (.idiv, 1) := by decide +kernel
theorem dX8_drawn_112 : decode cX8_drawn 112 = .ok (.bipush 10, 2) := by decide +kernel
theorem dX8_drawn_114 : decode cX8_drawn 114 = .ok (.irem, 1) := by decide +kernel
theorem dX8_drawn_115 : decode cX8_drawn 115 = .ok (.if_icmp .ne 6, 3) := by decide +kernel
theorem dX8_drawn_118 : decode cX8_drawn 118 = .ok (.iinc 4 1, 3) := by decide +kernel
theorem dX8_drawn_121 : decode cX8_drawn 121 = .ok (.iinc 5 1, 3) := by decide +kernel
theorem dX8_drawn_124 : decode cX8_drawn 124 = .ok (.goto (-52), 3) := by decide +kernel
theorem dX8_drawn_127 : decode cX8_drawn 127 = .ok (.iload 4, 2) := by decide +kernel
theorem dX8_drawn_129 : decode cX8_drawn 129 = .ok (.ireturn, 1) := by decide +kernel
theorem dX8_draw_0 : decode cX8_draw 0 = .ok (.aload_n 0, 1) := by decide +kernel
theorem dX8_draw_1 : decode cX8_draw 1 = .ok (.invokevirtual 196, 3) := by decide +kernel
theorem dX8_draw_4 : decode cX8_draw 4 = .ok (.ifCond .ne 6, 3) := by decide +kernel
theorem dX8_draw_7 : decode cX8_draw 7 = .ok (.bipush (-5), 2) := by decide +kernel
theorem dX8_draw_9 : decode cX8_draw 9 = .ok (.ireturn, 1) := by decide +kernel
theorem dX8_draw_10 : decode cX8_draw 10 = .ok (.aload_n 0, 1) := by decide +kernel
theorem dX8_draw_11 : decode cX8_draw 11 = .ok (.invokevirtual 275, 3) := by decide +kernel
theorem dX8_draw_14 : decode cX8_draw 14 = .ok (.aload_n 0, 1) := by decide +kernel
theorem dX8_draw_15 : decode cX8_draw 15 = .ok (.iload_n 1, 1) := by decide +kernel
theorem dX8_draw_16 : decode cX8_draw 16 = .ok (.putfield 341, 3) := by decide +kernel
theorem dX8_draw_19 : decode cX8_draw 19 = .ok (.aload_n 0, 1) := by decide +kernel
theorem dX8_draw_20 : decode cX8_draw 20 = .ok (.invokevirtual 351, 3) := by decide +kernel
theorem dX8_draw_23 : decode cX8_draw 23 = .ok (.istore_n 2, 1) := by decide +kernel
theorem dX8_draw_24 : decode cX8_draw 24 = .ok (.aload_n 0, 1) := by decide +kernel
theorem dX8_draw_25 : decode cX8_draw 25 = .ok (.getfield 9, 3) := by decide +kernel
theorem dX8_draw_28 : decode cX8_draw 28 = .ok (.aload_n 0, 1) := by decide +kernel
theorem dX8_draw_29 : decode cX8_draw 29 = .ok (.getfield 348, 3) := by decide +kernel
theorem dX8_draw_32 : decode cX8_draw 32 = .ok (.dup2, 1) := by decide +kernel
theorem dX8_draw_33 : decode cX8_draw 33 = .ok (.iaload, 1) := by decide +kernel
theorem dX8_draw_34 : decode cX8_draw 34 = .ok (.iconst 1, 1) := by decide +kernel
theorem dX8_draw_35 : decode cX8_draw 35 = .ok (.isub, 1) := by decide +kernel
theorem dX8_draw_36 : decode cX8_draw 36 = .ok (.iastore, 1) := by decide +kernel
theorem dX8_draw_37 : decode cX8_draw 37 = .ok (.aload_n 0, 1) := by decide +kernel
theorem dX8_draw_38 : decode cX8_draw 38 = .ok (.getfield 21, 3) := by decide +kernel
theorem dX8_draw_41 : decode cX8_draw 41 = .ok (.aload_n 0, 1) := by decide +kernel
theorem dX8_draw_42 : decode cX8_draw 42 = .ok (.getfield 348, 3) := by decide +kernel
theorem dX8_draw_45 : decode cX8_draw 45 = .ok (.dup2, 1) := by decide +kernel
theorem dX8_draw_46 : decode cX8_draw 46 = .ok (.iaload, 1) := by decide +kernel
theorem dX8_draw_47 : decode cX8_draw 47 = .ok (.iconst 1, 1) := by decide +kernel
theorem dX8_draw_48 : decode cX8_draw 48 = .ok (.iadd, 1) := by decide +kernel
theorem dX8_draw_49 : decode cX8_draw 49 = .ok (.iastore, 1) := by decide +kernel
theorem dX8_draw_50 : decode cX8_draw 50 = .ok (.aload_n 0, 1) := by decide +kernel
theorem dX8_draw_51 : decode cX8_draw 51 = .ok (.getfield 64, 3) := by decide +kernel
theorem dX8_draw_54 : decode cX8_draw 54 = .ok (.iload_n 2, 1) := by decide +kernel
theorem dX8_draw_55 : decode cX8_draw 55 = .ok (.bipush 10, 2) := by decide +kernel
theorem dX8_draw_57 : decode cX8_draw 57 = .ok (.idiv, 1) := by decide +kernel
theorem dX8_draw_58 : decode cX8_draw 58 = .ok (.dup2, 1) := by decide +kernel
theorem dX8_draw_59 : decode cX8_draw 59 = .ok (.iaload, 1) := by decide +kernel
theorem dX8_draw_60 : decode cX8_draw 60 = .ok (.iconst 1, 1) := by decide +kernel
theorem dX8_draw_61 : decode cX8_draw 61 = .ok (.iadd, 1) := by decide +kernel
theorem dX8_draw_62 : decode cX8_draw 62 = .ok (.iastore, 1) := by decide +kernel
theorem dX8_draw_63 : decode cX8_draw 63 = .ok (.aload_n 0, 1) := by decide +kernel
theorem dX8_draw_64 : decode cX8_draw 64 = .ok (.aload_n 0, 1) := by decide +kernel
theorem dX8_draw_65 : decode cX8_draw 65 = .ok (.getfield 348, 3) := by decide +kernel
theorem dX8_draw_68 : decode cX8_draw 68 = .ok (.putfield 67, 3) := by decide +kernel
theorem dX8_draw_71 : decode cX8_draw 71 = .ok (.iload_n 2, 1) := by decide +kernel
theorem dX8_draw_72 : decode cX8_draw 72 = .ok (.ireturn, 1) := by decide +kernel
theorem dX8_asideMany_0 : decode cX8_asideMany 0 = .ok (.iconst 0, 1) := by decide +kernel
theorem dX8_asideMany_1 : decode cX8_asideMany 1 = .ok (.istore_n 1, 1) := by decide +kernel
theorem dX8_asideMany_2 : decode cX8_asideMany 2 = .ok (.iconst 0, 1) := by decide +kernel
theorem dX8_asideMany_3 : decode cX8_asideMany 3 = .ok (.istore_n 2, 1) := by decide +kernel
theorem dX8_asideMany_4 : decode cX8_asideMany 4 = .ok (.iload_n 2, 1) := by decide +kernel
theorem dX8_asideMany_5 : decode cX8_asideMany 5 = .ok (.aload_n 0, 1) := by decide +kernel
theorem dX8_asideMany_6 : decode cX8_asideMany 6 = .ok (.getfield 145, 3) := by decide +kernel
theorem dX8_asideMany_9 : decode cX8_asideMany 9 = .ok (.if_icmp .ge 18, 3) := by decide +kernel
theorem dX8_asideMany_12 : decode cX8_asideMany 12 = .ok (.iload_n 1, 1) := by decide +kernel
theorem dX8_asideMany_13 : decode cX8_asideMany 13 = .ok (.aload_n 0, 1) := by decide +kernel
theorem dX8_asideMany_14 : decode cX8_asideMany 14 = .ok (.getfield 21, 3) := by decide +kernel
theorem dX8_asideMany_17 : decode cX8_asideMany 17 = .ok (.iload_n 2, 1) := by decide +kernel
theorem dX8_asideMany_18 : decode cX8_asideMany 18 = .ok (.iaload, 1) := by decide +kernel
theorem dX8_asideMany_19 : decode cX8_asideMany 19 = .ok (.iadd, 1) := by decide +kernel
theorem dX8_asideMany_20 : decode cX8_asideMany 20 = .ok (.istore_n 1, 1) := by decide +kernel
theorem dX8_asideMany_21 : decode cX8_asideMany 21 = .ok (.iinc 2 1, 3) := by decide +kernel
theorem dX8_asideMany_24 : decode cX8_asideMany 24 = .ok (.goto (-20), 3) := by decide +kernel
theorem dX8_asideMany_27 : decode cX8_asideMany 27 = .ok (.iload_n 1, 1) := by decide +kernel
theorem dX8_asideMany_28 : decode cX8_asideMany 28 = .ok (.ireturn, 1) := by decide +kernel
theorem dX8_putBack_0 : decode cX8_putBack 0 = .ok (.aload_n 0, 1) := by decide +kernel
theorem dX8_putBack_1 : decode cX8_putBack 1 = .ok (.invokevirtual 354, 3) := by decide +kernel
theorem dX8_putBack_4 : decode cX8_putBack 4 = .ok (.istore_n 1, 1) := by decide +kernel
theorem dX8_putBack_5 : decode cX8_putBack 5 = .ok (.iconst 0, 1) := by decide +kernel
theorem dX8_putBack_6 : decode cX8_putBack 6 = .ok (.istore_n 2, 1) := by decide +kernel
theorem dX8_putBack_7 : decode cX8_putBack 7 = .ok (.iload_n 2, 1) := by decide +kernel
theorem dX8_putBack_8 : decode cX8_putBack 8 = .ok (.aload_n 0, 1) := by decide +kernel
theorem dX8_putBack_9 : decode cX8_putBack 9 = .ok (.getfield 145, 3) := by decide +kernel
theorem dX8_putBack_12 : decode cX8_putBack 12 = .ok (.if_icmp .ge 58, 3) := by decide +kernel
theorem dX8_putBack_15 : decode cX8_putBack 15 = .ok (.aload_n 0, 1) := by decide +kernel
theorem dX8_putBack_16 : decode cX8_putBack 16 = .ok (.getfield 9, 3) := by decide +kernel
theorem dX8_putBack_19 : decode cX8_putBack 19 = .ok (.iload_n 2, 1) := by decide +kernel
theorem dX8_putBack_20 : decode cX8_putBack 20 = .ok (.aload_n 0, 1) := by decide +kernel
theorem dX8_putBack_21 : decode cX8_putBack 21 = .ok (.getfield 9, 3) := by decide +kernel
theorem dX8_putBack_24 : decode cX8_putBack 24 = .ok (.iload_n 2, 1) := by decide +kernel
theorem dX8_putBack_25 : decode cX8_putBack 25 = .ok (.iaload, 1) := by decide +kernel
theorem dX8_putBack_26 : decode cX8_putBack 26 = .ok (.aload_n 0, 1) := by decide +kernel
theorem dX8_putBack_27 : decode cX8_putBack 27 = .ok (.getfield 21, 3) := by decide +kernel
theorem dX8_putBack_30 : decode cX8_putBack 30 = .ok (.iload_n 2, 1) := by decide +kernel
theorem dX8_putBack_31 : decode cX8_putBack 31 = .ok (.iaload, 1) := by decide +kernel
theorem dX8_putBack_32 : decode cX8_putBack 32 = .ok (.iadd, 1) := by decide +kernel
theorem dX8_putBack_33 : decode cX8_putBack 33 = .ok (.bipush 9, 2) := by decide +kernel
theorem dX8_putBack_35 : decode cX8_putBack 35 = .ok (.if_icmp .le 8, 3) := by decide +kernel
theorem dX8_putBack_38 : decode cX8_putBack 38 = .ok (.bipush 9, 2) := by decide +kernel
theorem dX8_putBack_40 : decode cX8_putBack 40 = .ok (.goto 16, 3) := by decide +kernel
theorem dX8_putBack_43 : decode cX8_putBack 43 = .ok (.aload_n 0, 1) := by decide +kernel
theorem dX8_putBack_44 : decode cX8_putBack 44 = .ok (.getfield 9, 3) := by decide +kernel
theorem dX8_putBack_47 : decode cX8_putBack 47 = .ok (.iload_n 2, 1) := by decide +kernel
theorem dX8_putBack_48 : decode cX8_putBack 48 = .ok (.iaload, 1) := by decide +kernel
theorem dX8_putBack_49 : decode cX8_putBack 49 = .ok (.aload_n 0, 1) := by decide +kernel
theorem dX8_putBack_50 : decode cX8_putBack 50 = .ok (.getfield 21, 3) := by decide +kernel
theorem dX8_putBack_53 : decode cX8_putBack 53 = .ok (.iload_n 2, 1) := by decide +kernel
theorem dX8_putBack_54 : decode cX8_putBack 54 = .ok (.iaload, 1) := by decide +kernel
theorem dX8_putBack_55 : decode cX8_putBack 55 = .ok (.iadd, 1) := by decide +kernel
theorem dX8_putBack_56 : decode cX8_putBack 56 = .ok (.iastore, 1) := by decide +kernel
theorem dX8_putBack_57 : decode cX8_putBack 57 = .ok (.aload_n 0, 1) := by decide +kernel
theorem dX8_putBack_58 : decode cX8_putBack 58 = .ok (.getfield 21, 3) := by decide +kernel
theorem dX8_putBack_61 : decode cX8_putBack 61 = .ok (.iload_n 2, 1) := by decide +kernel
theorem dX8_putBack_62 : decode cX8_putBack 62 = .ok (.iconst 0, 1) := by decide +kernel
theorem dX8_putBack_63 : decode cX8_putBack 63 = .ok (.iastore, 1) := by decide +kernel
theorem dX8_putBack_64 : decode cX8_putBack 64 = .ok (.iinc 2 1, 3) := by decide +kernel
theorem dX8_putBack_67 : decode cX8_putBack 67 = .ok (.goto (-60), 3) := by decide +kernel
theorem dX8_putBack_70 : decode cX8_putBack 70 = .ok (.iload_n 1, 1) := by decide +kernel
theorem dX8_putBack_71 : decode cX8_putBack 71 = .ok (.ireturn, 1) := by decide +kernel
theorem dX8_image_0 : decode cX8_image 0 = .ok (.aload_n 0, 1) := by decide +kernel
theorem dX8_image_1 : decode cX8_image 1 = .ok (.aload_n 0, 1) := by decide +kernel
theorem dX8_image_2 : decode cX8_image 2 = .ok (.getfield 145, 3) := by decide +kernel
theorem dX8_image_5 : decode cX8_image 5 = .ok (.putfield 111, 3) := by decide +kernel
theorem dX8_image_8 : decode cX8_image 8 = .ok (.aload_n 0, 1) := by decide +kernel
theorem dX8_image_9 : decode cX8_image 9 = .ok (.aload_n 0, 1) := by decide +kernel
theorem dX8_image_10 : decode cX8_image 10 = .ok (.getfield 67, 3) := by decide +kernel
theorem dX8_image_13 : decode cX8_image 13 = .ok (.putfield 357, 3) := by decide +kernel
theorem dX8_image_16 : decode cX8_image 16 = .ok (.iconst 0, 1) := by decide +kernel
theorem dX8_image_17 : decode cX8_image 17 = .ok (.istore_n 1, 1) := by decide +kernel
theorem dX8_image_18 : decode cX8_image 18 = .ok (.iload_n 1, 1) := by decide +kernel
theorem dX8_image_19 : decode cX8_image 19 = .ok (.aload_n 0, 1) := by decide +kernel
theorem dX8_image_20 : decode cX8_image 20 = .ok (.getfield 145, 3) := by decide +kernel
theorem dX8_image_23 : decode cX8_image 23 = .ok (.if_icmp .ge 33, 3) := by decide +kernel
theorem dX8_image_26 : decode cX8_image 26 = .ok (.aload_n 0, 1) := by decide +kernel
theorem dX8_image_27 : decode cX8_image 27 = .ok (.getfield 114, 3) := by decide +kernel
theorem dX8_image_30 : decode cX8_image 30 = .ok (.iload_n 1, 1) := by decide +kernel
theorem dX8_image_31 : decode cX8_image 31 = .ok (.aload_n 0, 1) := by decide +kernel
theorem dX8_image_32 : decode cX8_image 32 = .ok (.getfield 9, 3) := by decide +kernel
theorem dX8_image_35 : decode cX8_image 35 = .ok (.iload_n 1, 1) := by decide +kernel
theorem dX8_image_36 : decode cX8_image 36 = .ok (.iaload, 1) := by decide +kernel
theorem dX8_image_37 : decode cX8_image 37 = .ok (.iastore, 1) := by decide +kernel
theorem dX8_image_38 : decode cX8_image 38 = .ok (.aload_n 0, 1) := by decide +kernel
theorem dX8_image_39 : decode cX8_image 39 = .ok (.getfield 117, 3) := by decide +kernel
theorem dX8_image_42 : decode cX8_image 42 = .ok (.iload_n 1, 1) := by decide +kernel
theorem dX8_image_43 : decode cX8_image 43 = .ok (.aload_n 0, 1) := by decide +kernel
theorem dX8_image_44 : decode cX8_image 44 = .ok (.getfield 21, 3) := by decide +kernel
theorem dX8_image_47 : decode cX8_image 47 = .ok (.iload_n 1, 1) := by decide +kernel
theorem dX8_image_48 : decode cX8_image 48 = .ok (.iaload, 1) := by decide +kernel
theorem dX8_image_49 : decode cX8_image 49 = .ok (.iastore, 1) := by decide +kernel
theorem dX8_image_50 : decode cX8_image 50 = .ok (.iinc 1 1, 3) := by decide +kernel
theorem dX8_image_53 : decode cX8_image 53 = .ok (.goto (-35), 3) := by decide +kernel
theorem dX8_image_56 : decode cX8_image 56 = .ok (.iconst 0, 1) := by decide +kernel
theorem dX8_image_57 : decode cX8_image 57 = .ok (.istore_n 1, 1) := by decide +kernel
theorem dX8_image_58 : decode cX8_image 58 = .ok (.iload_n 1, 1) := by decide +kernel
theorem dX8_image_59 : decode cX8_image 59 = .ok (.bipush 6, 2) := by decide +kernel
theorem dX8_image_61 : decode cX8_image 61 = .ok (.if_icmp .ge 21, 3) := by decide +kernel
theorem dX8_image_64 : decode cX8_image 64 = .ok (.aload_n 0, 1) := by decide +kernel
theorem dX8_image_65 : decode cX8_image 65 = .ok (.getfield 120, 3) := by decide +kernel
theorem dX8_image_68 : decode cX8_image 68 = .ok (.iload_n 1, 1) := by decide +kernel
theorem dX8_image_69 : decode cX8_image 69 = .ok (.aload_n 0, 1) := by decide +kernel
theorem dX8_image_70 : decode cX8_image 70 = .ok (.getfield 64, 3) := by decide +kernel
theorem dX8_image_73 : decode cX8_image 73 = .ok (.iload_n 1, 1) := by decide +kernel
theorem dX8_image_74 : decode cX8_image 74 = .ok (.iaload, 1) := by decide +kernel
theorem dX8_image_75 : decode cX8_image 75 = .ok (.iastore, 1) := by decide +kernel
theorem dX8_image_76 : decode cX8_image 76 = .ok (.iinc 1 1, 3) := by decide +kernel
theorem dX8_image_79 : decode cX8_image 79 = .ok (.goto (-21), 3) := by decide +kernel
theorem dX8_image_82 : decode cX8_image 82 = .ok (.aload_n 0, 1) := by decide +kernel
theorem dX8_image_83 : decode cX8_image 83 = .ok (.invokevirtual 196, 3) := by decide +kernel
theorem dX8_image_86 : decode cX8_image 86 = .ok (.ireturn, 1) := by decide +kernel
theorem dX8_back_0 : decode cX8_back 0 = .ok (.aload_n 0, 1) := by decide +kernel
theorem dX8_back_1 : decode cX8_back 1 = .ok (.getfield 111, 3) := by decide +kernel
theorem dX8_back_4 : decode cX8_back 4 = .ok (.ifCond .ge 6, 3) := by decide +kernel
theorem dX8_back_7 : decode cX8_back 7 = .ok (.bipush (-5), 2) := by decide +kernel
theorem dX8_back_9 : decode cX8_back 9 = .ok (.ireturn, 1) := by decide +kernel
theorem dX8_back_10 : decode cX8_back 10 = .ok (.aload_n 0, 1) := by decide +kernel
theorem dX8_back_11 : decode cX8_back 11 = .ok (.aload_n 0, 1) := by decide +kernel
theorem dX8_back_12 : decode cX8_back 12 = .ok (.getfield 357, 3) := by decide +kernel
theorem dX8_back_15 : decode cX8_back 15 = .ok (.putfield 67, 3) := by decide +kernel
theorem dX8_back_18 : decode cX8_back 18 = .ok (.iconst 0, 1) := by decide +kernel
theorem dX8_back_19 : decode cX8_back 19 = .ok (.istore_n 1, 1) := by decide +kernel
theorem dX8_back_20 : decode cX8_back 20 = .ok (.iload_n 1, 1) := by decide +kernel
theorem dX8_back_21 : decode cX8_back 21 = .ok (.aload_n 0, 1) := by decide +kernel
theorem dX8_back_22 : decode cX8_back 22 = .ok (.getfield 111, 3) := by decide +kernel
theorem dX8_back_25 : decode cX8_back 25 = .ok (.if_icmp .ge 33, 3) := by decide +kernel
theorem dX8_back_28 : decode cX8_back 28 = .ok (.aload_n 0, 1) := by decide +kernel
theorem dX8_back_29 : decode cX8_back 29 = .ok (.getfield 9, 3) := by decide +kernel
theorem dX8_back_32 : decode cX8_back 32 = .ok (.iload_n 1, 1) := by decide +kernel
theorem dX8_back_33 : decode cX8_back 33 = .ok (.aload_n 0, 1) := by decide +kernel
theorem dX8_back_34 : decode cX8_back 34 = .ok (.getfield 114, 3) := by decide +kernel
theorem dX8_back_37 : decode cX8_back 37 = .ok (.iload_n 1, 1) := by decide +kernel
theorem dX8_back_38 : decode cX8_back 38 = .ok (.iaload, 1) := by decide +kernel
theorem dX8_back_39 : decode cX8_back 39 = .ok (.iastore, 1) := by decide +kernel
theorem dX8_back_40 : decode cX8_back 40 = .ok (.aload_n 0, 1) := by decide +kernel
theorem dX8_back_41 : decode cX8_back 41 = .ok (.getfield 21, 3) := by decide +kernel
theorem dX8_back_44 : decode cX8_back 44 = .ok (.iload_n 1, 1) := by decide +kernel
theorem dX8_back_45 : decode cX8_back 45 = .ok (.aload_n 0, 1) := by decide +kernel
theorem dX8_back_46 : decode cX8_back 46 = .ok (.getfield 117, 3) := by decide +kernel
theorem dX8_back_49 : decode cX8_back 49 = .ok (.iload_n 1, 1) := by decide +kernel
theorem dX8_back_50 : decode cX8_back 50 = .ok (.iaload, 1) := by decide +kernel
theorem dX8_back_51 : decode cX8_back 51 = .ok (.iastore, 1) := by decide +kernel
theorem dX8_back_52 : decode cX8_back 52 = .ok (.iinc 1 1, 3) := by decide +kernel
theorem dX8_back_55 : decode cX8_back 55 = .ok (.goto (-35), 3) := by decide +kernel
theorem dX8_back_58 : decode cX8_back 58 = .ok (.iconst 0, 1) := by decide +kernel
theorem dX8_back_59 : decode cX8_back 59 = .ok (.istore_n 1, 1) := by decide +kernel
theorem dX8_back_60 : decode cX8_back 60 = .ok (.iload_n 1, 1) := by decide +kernel
theorem dX8_back_61 : decode cX8_back 61 = .ok (.bipush 6, 2) := by decide +kernel
theorem dX8_back_63 : decode cX8_back 63 = .ok (.if_icmp .ge 21, 3) := by decide +kernel
theorem dX8_back_66 : decode cX8_back 66 = .ok (.aload_n 0, 1) := by decide +kernel
theorem dX8_back_67 : decode cX8_back 67 = .ok (.getfield 64, 3) := by decide +kernel
theorem dX8_back_70 : decode cX8_back 70 = .ok (.iload_n 1, 1) := by decide +kernel
theorem dX8_back_71 : decode cX8_back 71 = .ok (.aload_n 0, 1) := by decide +kernel
theorem dX8_back_72 : decode cX8_back 72 = .ok (.getfield 120, 3) := by decide +kernel
theorem dX8_back_75 : decode cX8_back 75 = .ok (.iload_n 1, 1) := by decide +kernel
theorem dX8_back_76 : decode cX8_back 76 = .ok (.iaload, 1) := by decide +kernel
theorem dX8_back_77 : decode cX8_back 77 = .ok (.iastore, 1) := by decide +kernel
theorem dX8_back_78 : decode cX8_back 78 = .ok (.iinc 1 1, 3) := by decide +kernel
theorem dX8_back_81 : decode cX8_back 81 = .ok (.goto (-21), 3) := by decide +kernel
theorem dX8_back_84 : decode cX8_back 84 = .ok (.aload_n 0, 1) := by decide +kernel
theorem dX8_back_85 : decode cX8_back 85 = .ok (.invokevirtual 196, 3) := by decide +kernel
theorem dX8_back_88 : decode cX8_back 88 = .ok (.ireturn, 1) := by decide +kernel
theorem dX8_isBody_0 : decode cX8_isBody 0 = .ok (.iload_n 1, 1) := by decide +kernel
theorem dX8_isBody_1 : decode cX8_isBody 1 = .ok (.iconst 0, 1) := by decide +kernel
theorem dX8_isBody_2 : decode cX8_isBody 2 = .ok (.aload_n 0, 1) := by decide +kernel
theorem dX8_isBody_3 : decode cX8_isBody 3 = .ok (.getfield 360, 3) := by decide +kernel
theorem dX8_isBody_6 : decode cX8_isBody 6 = .ok (.iconst 1, 1) := by decide +kernel
theorem dX8_isBody_7 : decode cX8_isBody 7 = .ok (.isub, 1) := by decide +kernel
theorem dX8_isBody_8 : decode cX8_isBody 8 = .ok (.invokestatic 148, 3) := by decide +kernel
theorem dX8_isBody_11 : decode cX8_isBody 11 = .ok (.ireturn, 1) := by decide +kernel
theorem dX8_ran_0 : decode cX8_ran 0 = .ok (.aload_n 0, 1) := by decide +kernel
theorem dX8_ran_1 : decode cX8_ran 1 = .ok (.getfield 363, 3) := by decide +kernel
theorem dX8_ran_4 : decode cX8_ran 4 = .ok (.bipush 24, 2) := by decide +kernel
theorem dX8_ran_6 : decode cX8_ran 6 = .ok (.if_icmp .ge 13, 3) := by decide +kernel
theorem dX8_ran_9 : decode cX8_ran 9 = .ok (.aload_n 0, 1) := by decide +kernel
theorem dX8_ran_10 : decode cX8_ran 10 = .ok (.getfield 126, 3) := by decide +kernel
theorem dX8_ran_13 : decode cX8_ran 13 = .ok (.aload_n 0, 1) := by decide +kernel
theorem dX8_ran_14 : decode cX8_ran 14 = .ok (.getfield 363, 3) := by decide +kernel
theorem dX8_ran_17 : decode cX8_ran 17 = .ok (.iload_n 1, 1) := by decide +kernel
theorem dX8_ran_18 : decode cX8_ran 18 = .ok (.iastore, 1) := by decide +kernel
theorem dX8_ran_19 : decode cX8_ran 19 = .ok (.aload_n 0, 1) := by decide +kernel
theorem dX8_ran_20 : decode cX8_ran 20 = .ok (.dup, 1) := by decide +kernel
theorem dX8_ran_21 : decode cX8_ran 21 = .ok (.getfield 363, 3) := by decide +kernel
theorem dX8_ran_24 : decode cX8_ran 24 = .ok (.iconst 1, 1) := by decide +kernel
theorem dX8_ran_25 : decode cX8_ran 25 = .ok (.iadd, 1) := by decide +kernel
theorem dX8_ran_26 : decode cX8_ran 26 = .ok (.putfield 363, 3) := by decide +kernel
theorem dX8_ran_29 : decode cX8_ran 29 = .ok (.return_, 1) := by decide +kernel
theorem dX8_trace_0 : decode cX8_trace 0 = .ok (.iload_n 1, 1) := by decide +kernel
theorem dX8_trace_1 : decode cX8_trace 1 = .ok (.ifCond .lt 26, 3) := by decide +kernel
theorem dX8_trace_4 : decode cX8_trace 4 = .ok (.iload_n 1, 1) := by decide +kernel
theorem dX8_trace_5 : decode cX8_trace 5 = .ok (.aload_n 0, 1) := by decide +kernel
theorem dX8_trace_6 : decode cX8_trace 6 = .ok (.getfield 363, 3) := by decide +kernel
theorem dX8_trace_9 : decode cX8_trace 9 = .ok (.if_icmp .ge 18, 3) := by decide +kernel
theorem dX8_trace_12 : decode cX8_trace 12 = .ok (.iload_n 1, 1) := by decide +kernel
theorem dX8_trace_13 : decode cX8_trace 13 = .ok (.bipush 24, 2) := by decide +kernel
theorem dX8_trace_15 : decode cX8_trace 15 = .ok (.if_icmp .ge 12, 3) := by decide +kernel
theorem dX8_trace_18 : decode cX8_trace 18 = .ok (.aload_n 0, 1) := by decide +kernel
theorem dX8_trace_19 : decode cX8_trace 19 = .ok (.getfield 126, 3) := by decide +kernel
theorem dX8_trace_22 : decode cX8_trace 22 = .ok (.iload_n 1, 1) := by decide +kernel
theorem dX8_trace_23 : decode cX8_trace 23 = .ok (.iaload, 1) := by decide +kernel
theorem dX8_trace_24 : decode cX8_trace 24 = .ok (.goto 4, 3) := by decide +kernel
theorem dX8_trace_27 : decode cX8_trace 27 = .ok (.iconst (-1), 1) := by decide +kernel
theorem dX8_trace_28 : decode cX8_trace 28 = .ok (.ireturn, 1) := by decide +kernel
theorem dX8_body_0 : decode cX8_body 0 = .ok (.iload_n 1, 1) := by decide +kernel
theorem dX8_body_1 : decode cX8_body 1 = .ok (.iconst 0, 1) := by decide +kernel
theorem dX8_body_2 : decode cX8_body 2 = .ok (.bipush 7, 2) := by decide +kernel
theorem dX8_body_4 : decode cX8_body 4 = .ok (.invokestatic 148, 3) := by decide +kernel
theorem dX8_body_7 : decode cX8_body 7 = .ok (.ifCond .ne 5, 3) := by decide +kernel
theorem dX8_body_10 : decode cX8_body 10 = .ok (.iconst (-1), 1) := by decide +kernel
theorem dX8_body_11 : decode cX8_body 11 = .ok (.ireturn, 1) := by decide +kernel
theorem dX8_body_12 : decode cX8_body 12 = .ok (.aload_n 0, 1) := by decide +kernel
theorem dX8_body_13 : decode cX8_body 13 = .ok (.getfield 360, 3) := by decide +kernel
theorem dX8_body_16 : decode cX8_body 16 = .ok (.bipush 50, 2) := by decide +kernel
theorem dX8_body_18 : decode cX8_body 18 = .ok (.if_icmp .ne 6, 3) := by decide +kernel
theorem dX8_body_21 : decode cX8_body 21 = .ok (.bipush (-3), 2) := by decide +kernel
theorem dX8_body_23 : decode cX8_body 23 = .ok (.ireturn, 1) := by decide +kernel
theorem dX8_body_24 : decode cX8_body 24 = .ok (.aload_n 0, 1) := by decide +kernel
theorem dX8_body_25 : decode cX8_body 25 = .ok (.getfield 123, 3) := by decide +kernel
theorem dX8_body_28 : decode cX8_body 28 = .ok (.aload_n 0, 1) := by decide +kernel
theorem dX8_body_29 : decode cX8_body 29 = .ok (.getfield 360, 3) := by decide +kernel
theorem dX8_body_32 : decode cX8_body 32 = .ok (.iload_n 1, 1) := by decide +kernel
theorem dX8_body_33 : decode cX8_body 33 = .ok (.iastore, 1) := by decide +kernel
theorem dX8_body_34 : decode cX8_body 34 = .ok (.aload_n 0, 1) := by decide +kernel
theorem dX8_body_35 : decode cX8_body 35 = .ok (.dup, 1) := by decide +kernel
theorem dX8_body_36 : decode cX8_body 36 = .ok (.getfield 360, 3) := by decide +kernel
theorem dX8_body_39 : decode cX8_body 39 = .ok (.iconst 1, 1) := by decide +kernel
theorem dX8_body_40 : decode cX8_body 40 = .ok (.iadd, 1) := by decide +kernel
theorem dX8_body_41 : decode cX8_body 41 = .ok (.putfield 360, 3) := by decide +kernel
theorem dX8_body_44 : decode cX8_body 44 = .ok (.aload_n 0, 1) := by decide +kernel
theorem dX8_body_45 : decode cX8_body 45 = .ok (.getfield 360, 3) := by decide +kernel
theorem dX8_body_48 : decode cX8_body 48 = .ok (.iconst 1, 1) := by decide +kernel
theorem dX8_body_49 : decode cX8_body 49 = .ok (.isub, 1) := by decide +kernel
theorem dX8_body_50 : decode cX8_body 50 = .ok (.ireturn, 1) := by decide +kernel
theorem dX8_isUnder_0 : decode cX8_isUnder 0 = .ok (.iload_n 1, 1) := by decide +kernel
theorem dX8_isUnder_1 : decode cX8_isUnder 1 = .ok (.ifCond .eq 55, 3) := by decide +kernel
theorem dX8_isUnder_4 : decode cX8_isUnder 4 = .ok (.iload_n 0, 1) := by decide +kernel
theorem dX8_isUnder_5 : decode cX8_isUnder 5 = .ok (.iload_n 1, 1) := by decide +kernel
theorem dX8_isUnder_6 : decode cX8_isUnder 6 = .ok (.if_icmp .eq 50, 3) := by decide +kernel
theorem dX8_isUnder_9 : decode cX8_isUnder 9 = .ok (.iload_n 1, 1) := by decide +kernel
theorem dX8_isUnder_10 : decode cX8_isUnder 10 = .ok (.iconst 1, 1) := by decide +kernel
theorem dX8_isUnder_11 : decode cX8_isUnder 11 = .ok (.if_icmp .ne 8, 3) := by decide +kernel
theorem dX8_isUnder_14 : decode cX8_isUnder 14 = .ok (.iload_n 0, 1) := by decide +kernel
theorem dX8_isUnder_15 : decode cX8_isUnder 15 = .ok (.iconst 4, 1) := by decide +kernel
theorem dX8_isUnder_16 : decode cX8_isUnder 16 = .ok (.if_icmp .eq 40, 3) := by decide +kernel
theorem dX8_isUnder_19 : decode cX8_isUnder 19 = .ok (.iload_n 1, 1) := by decide +kernel
theorem dX8_isUnder_20 : decode cX8_isUnder 20 = .ok (.iconst 2, 1) := by decide +kernel
theorem dX8_isUnder_21 : decode cX8_isUnder 21 = .ok (.if_icmp .ne 13, 3) := by decide +kernel
theorem dX8_isUnder_24 : decode cX8_isUnder 24 = .ok (.iload_n 0, 1) := by decide +kernel
theorem dX8_isUnder_25 : decode cX8_isUnder 25 = .ok (.iconst 3, 1) := by decide +kernel
theorem dX8_isUnder_26 : decode cX8_isUnder 26 = .ok (.if_icmp .eq 30, 3) := by decide +kernel
theorem dX8_isUnder_29 : decode cX8_isUnder 29 = .ok (.iload_n 0, 1) := by decide +kernel
theorem dX8_isUnder_30 : decode cX8_isUnder 30 = .ok (.iconst 5, 1) := by decide +kernel
theorem dX8_isUnder_31 : decode cX8_isUnder 31 = .ok (.if_icmp .eq 25, 3) := by decide +kernel
theorem dX8_isUnder_34 : decode cX8_isUnder 34 = .ok (.iload_n 1, 1) := by decide +kernel
theorem dX8_isUnder_35 : decode cX8_isUnder 35 = .ok (.iconst 3, 1) := by decide +kernel
theorem dX8_isUnder_36 : decode cX8_isUnder 36 = .ok (.if_icmp .ne 8, 3) := by decide +kernel
theorem dX8_isUnder_39 : decode cX8_isUnder 39 = .ok (.iload_n 0, 1) := by decide +kernel
theorem dX8_isUnder_40 : decode cX8_isUnder 40 = .ok (.iconst 5, 1) := by decide +kernel
theorem dX8_isUnder_41 : decode cX8_isUnder 41 = .ok (.if_icmp .eq 15, 3) := by decide +kernel
theorem dX8_isUnder_44 : decode cX8_isUnder 44 = .ok (.iload_n 1, 1) := by decide +kernel
theorem dX8_isUnder_45 : decode cX8_isUnder 45 = .ok (.bipush 6, 2) := by decide +kernel
theorem dX8_isUnder_47 : decode cX8_isUnder 47 = .ok (.if_icmp .ne 13, 3) := by decide +kernel
theorem dX8_isUnder_50 : decode cX8_isUnder 50 = .ok (.iload_n 0, 1) := by decide +kernel
theorem dX8_isUnder_51 : decode cX8_isUnder 51 = .ok (.bipush 7, 2) := by decide +kernel
theorem dX8_isUnder_53 : decode cX8_isUnder 53 = .ok (.if_icmp .ne 7, 3) := by decide +kernel
theorem dX8_isUnder_56 : decode cX8_isUnder 56 = .ok (.iconst 1, 1) := by decide +kernel
theorem dX8_isUnder_57 : decode cX8_isUnder 57 = .ok (.goto 4, 3) := by decide +kernel
theorem dX8_isUnder_60 : decode cX8_isUnder 60 = .ok (.iconst 0, 1) := by decide +kernel
theorem dX8_isUnder_61 : decode cX8_isUnder 61 = .ok (.ireturn, 1) := by decide +kernel
theorem dX8_plainShows_0 : decode cX8_plainShows 0 = .ok (.aload_n 0, 1) := by decide +kernel
theorem dX8_plainShows_1 : decode cX8_plainShows 1 = .ok (.iconst 1, 1) := by decide +kernel
theorem dX8_plainShows_2 : decode cX8_plainShows 2 = .ok (.invokevirtual 366, 3) := by decide +kernel
theorem dX8_plainShows_5 : decode cX8_plainShows 5 = .ok (.iload_n 2, 1) := by decide +kernel
theorem dX8_plainShows_6 : decode cX8_plainShows 6 = .ok (.iload_n 1, 1) := by decide +kernel
theorem dX8_plainShows_7 : decode cX8_plainShows 7 = .ok (.iadd, 1) := by decide +kernel
theorem dX8_plainShows_8 : decode cX8_plainShows 8 = .ok (.ireturn, 1) := by decide +kernel
theorem dX8_toldShows_0 : decode cX8_toldShows 0 = .ok (.aload_n 0, 1) := by decide +kernel
theorem dX8_toldShows_1 : decode cX8_toldShows 1 = .ok (.bipush 70, 2) := by decide +kernel
theorem dX8_toldShows_3 : decode cX8_toldShows 3 = .ok (.invokevirtual 366, 3) := by decide +kernel
theorem dX8_toldShows_6 : decode cX8_toldShows 6 = .ok (.aload_n 0, 1) := by decide +kernel
theorem dX8_toldShows_7 : decode cX8_toldShows 7 = .ok (.iload_n 1, 1) := by decide +kernel
theorem dX8_toldShows_8 : decode cX8_toldShows 8 = .ok (.iload_n 2, 1) := by decide +kernel
theorem dX8_toldShows_9 : decode cX8_toldShows 9 = .ok (.invokevirtual 370, 3) := by decide +kernel
theorem dX8_toldShows_12 : decode cX8_toldShows 12 = .ok (.iconst 2, 1) := by decide +kernel
theorem dX8_toldShows_13 : decode cX8_toldShows 13 = .ok (.imul, 1) := by decide +kernel
theorem dX8_toldShows_14 : decode cX8_toldShows 14 = .ok (.ireturn, 1) := by decide +kernel
theorem dX8_showing_0 : decode cX8_showing 0 = .ok (.aload_n 0, 1) := by decide +kernel
theorem dX8_showing_1 : decode cX8_showing 1 = .ok (.getfield 123, 3) := by decide +kernel
theorem dX8_showing_4 : decode cX8_showing 4 = .ok (.iload_n 1, 1) := by decide +kernel
theorem dX8_showing_5 : decode cX8_showing 5 = .ok (.iaload, 1) := by decide +kernel
theorem dX8_showing_6 : decode cX8_showing 6 = .ok (.iconst 1, 1) := by decide +kernel
theorem dX8_showing_7 : decode cX8_showing 7 = .ok (.invokestatic 373, 3) := by decide +kernel
theorem dX8_showing_10 : decode cX8_showing 10 = .ok (.ifCond .eq 18, 3) := by decide +kernel
theorem dX8_showing_13 : decode cX8_showing 13 = .ok (.aload_n 0, 1) := by decide +kernel
theorem dX8_showing_14 : decode cX8_showing 14 = .ok (.bipush 20, 2) := by decide +kernel
theorem dX8_showing_16 : decode cX8_showing 16 = .ok (.invokevirtual 366, 3) := by decide +kernel
theorem dX8_showing_19 : decode cX8_showing 19 = .ok (.aload_n 0, 1) := by decide +kernel
theorem dX8_showing_20 : decode cX8_showing 20 = .ok (.iload_n 1, 1) := by decide +kernel
theorem dX8_showing_21 : decode cX8_showing 21 = .ok (.iload_n 2, 1) := by decide +kernel
theorem dX8_showing_22 : decode cX8_showing 22 = .ok (.invokevirtual 370, 3) := by decide +kernel
theorem dX8_showing_25 : decode cX8_showing 25 = .ok (.iconst 3, 1) := by decide +kernel
theorem dX8_showing_26 : decode cX8_showing 26 = .ok (.iadd, 1) := by decide +kernel
theorem dX8_showing_27 : decode cX8_showing 27 = .ok (.ireturn, 1) := by decide +kernel
theorem dX8_showing_28 : decode cX8_showing 28 = .ok (.aload_n 0, 1) := by decide +kernel
theorem dX8_showing_29 : decode cX8_showing 29 = .ok (.getfield 123, 3) := by decide +kernel
theorem dX8_showing_32 : decode cX8_showing 32 = .ok (.iload_n 1, 1) := by decide +kernel
theorem dX8_showing_33 : decode cX8_showing 33 = .ok (.iaload, 1) := by decide +kernel
theorem dX8_showing_34 : decode cX8_showing 34 = .ok (.bipush 7, 2) := by decide +kernel
theorem dX8_showing_36 : decode cX8_showing 36 = .ok (.if_icmp .ne 18, 3) := by decide +kernel
theorem dX8_showing_39 : decode cX8_showing 39 = .ok (.aload_n 0, 1) := by decide +kernel
theorem dX8_showing_40 : decode cX8_showing 40 = .ok (.bipush 81, 2) := by decide +kernel
theorem dX8_showing_42 : decode cX8_showing 42 = .ok (.invokevirtual 366, 3) := by decide +kernel
theorem dX8_showing_45 : decode cX8_showing 45 = .ok (.aload_n 0, 1) := by decide +kernel
theorem dX8_showing_46 : decode cX8_showing 46 = .ok (.iload_n 1, 1) := by decide +kernel
theorem dX8_showing_47 : decode cX8_showing 47 = .ok (.iload_n 2, 1) := by decide +kernel
theorem dX8_showing_48 : decode cX8_showing 48 = .ok (.invokevirtual 376, 3) := by decide +kernel
theorem dX8_showing_51 : decode cX8_showing 51 = .ok (.iconst 1, 1) := by decide +kernel
theorem dX8_showing_52 : decode cX8_showing 52 = .ok (.isub, 1) := by decide +kernel
theorem dX8_showing_53 : decode cX8_showing 53 = .ok (.ireturn, 1) := by decide +kernel
theorem dX8_showing_54 : decode cX8_showing 54 = .ok (.aload_n 0, 1) := by decide +kernel
theorem dX8_showing_55 : decode cX8_showing 55 = .ok (.getfield 123, 3) := by decide +kernel
theorem dX8_showing_58 : decode cX8_showing 58 = .ok (.iload_n 1, 1) := by decide +kernel
theorem dX8_showing_59 : decode cX8_showing 59 = .ok (.iaload, 1) := by decide +kernel
theorem dX8_showing_60 : decode cX8_showing 60 = .ok (.bipush 6, 2) := by decide +kernel
theorem dX8_showing_62 : decode cX8_showing 62 = .ok (.if_icmp .ne 12, 3) := by decide +kernel
theorem dX8_showing_65 : decode cX8_showing 65 = .ok (.aload_n 0, 1) := by decide +kernel
theorem dX8_showing_66 : decode cX8_showing 66 = .ok (.iload_n 1, 1) := by decide +kernel
theorem dX8_showing_67 : decode cX8_showing 67 = .ok (.iload_n 2, 1) := by decide +kernel
theorem dX8_showing_68 : decode cX8_showing 68 = .ok (.invokevirtual 376, 3) := by decide +kernel
theorem dX8_showing_71 : decode cX8_showing 71 = .ok (.goto 9, 3) := by decide +kernel
theorem dX8_showing_74 : decode cX8_showing 74 = .ok (.aload_n 0, 1) := by decide +kernel
theorem dX8_showing_75 : decode cX8_showing 75 = .ok (.iload_n 1, 1) := by decide +kernel
theorem dX8_showing_76 : decode cX8_showing 76 = .ok (.iload_n 2, 1) := by decide +kernel
theorem dX8_showing_77 : decode cX8_showing 77 = .ok (.invokevirtual 370, 3) := by decide +kernel
theorem dX8_showing_80 : decode cX8_showing 80 = .ok (.ireturn, 1) := by decide +kernel
theorem dX8_plainDraws_0 : decode cX8_plainDraws 0 = .ok (.aload_n 0, 1) := by decide +kernel
theorem dX8_plainDraws_1 : decode cX8_plainDraws 1 = .ok (.bipush 10, 2) := by decide +kernel
theorem dX8_plainDraws_3 : decode cX8_plainDraws 3 = .ok (.invokevirtual 366, 3) := by decide +kernel
theorem dX8_plainDraws_6 : decode cX8_plainDraws 6 = .ok (.aload_n 0, 1) := by decide +kernel
theorem dX8_plainDraws_7 : decode cX8_plainDraws 7 = .ok (.iload_n 1, 1) := by decide +kernel
theorem dX8_plainDraws_8 : decode cX8_plainDraws 8 = .ok (.iload_n 2, 1) := by decide +kernel
theorem dX8_plainDraws_9 : decode cX8_plainDraws 9 = .ok (.invokevirtual 379, 3) := by decide +kernel
theorem dX8_plainDraws_12 : decode cX8_plainDraws 12 = .ok (.iconst 2, 1) := by decide +kernel
theorem dX8_plainDraws_13 : decode cX8_plainDraws 13 = .ok (.imul, 1) := by decide +kernel
theorem dX8_plainDraws_14 : decode cX8_plainDraws 14 = .ok (.ireturn, 1) := by decide +kernel
theorem dX8_urnDraws_0 : decode cX8_urnDraws 0 = .ok (.aload_n 0, 1) := by decide +kernel
theorem dX8_urnDraws_1 : decode cX8_urnDraws 1 = .ok (.bipush 30, 2) := by decide +kernel
theorem dX8_urnDraws_3 : decode cX8_urnDraws 3 = .ok (.invokevirtual 366, 3) := by decide +kernel
theorem dX8_urnDraws_6 : decode cX8_urnDraws 6 = .ok (.aload_n 0, 1) := by decide +kernel
theorem dX8_urnDraws_7 : decode cX8_urnDraws 7 = .ok (.iload_n 1, 1) := by decide +kernel
theorem dX8_urnDraws_8 : decode cX8_urnDraws 8 = .ok (.iload_n 2, 1) := by decide +kernel
theorem dX8_urnDraws_9 : decode cX8_urnDraws 9 = .ok (.invokevirtual 382, 3) := by decide +kernel
theorem dX8_urnDraws_12 : decode cX8_urnDraws 12 = .ok (.ineg, 1) := by decide +kernel
theorem dX8_urnDraws_13 : decode cX8_urnDraws 13 = .ok (.ireturn, 1) := by decide +kernel
theorem dX8_drawing_0 : decode cX8_drawing 0 = .ok (.aload_n 0, 1) := by decide +kernel
theorem dX8_drawing_1 : decode cX8_drawing 1 = .ok (.getfield 123, 3) := by decide +kernel
theorem dX8_drawing_4 : decode cX8_drawing 4 = .ok (.iload_n 1, 1) := by decide +kernel
theorem dX8_drawing_5 : decode cX8_drawing 5 = .ok (.iaload, 1) := by decide +kernel
theorem dX8_drawing_6 : decode cX8_drawing 6 = .ok (.iconst 3, 1) := by decide +kernel
theorem dX8_drawing_7 : decode cX8_drawing 7 = .ok (.invokestatic 373, 3) := by decide +kernel
theorem dX8_drawing_10 : decode cX8_drawing 10 = .ok (.ifCond .eq 18, 3) := by decide +kernel
theorem dX8_drawing_13 : decode cX8_drawing 13 = .ok (.aload_n 0, 1) := by decide +kernel
theorem dX8_drawing_14 : decode cX8_drawing 14 = .ok (.bipush 41, 2) := by decide +kernel
theorem dX8_drawing_16 : decode cX8_drawing 16 = .ok (.invokevirtual 366, 3) := by decide +kernel
theorem dX8_drawing_19 : decode cX8_drawing 19 = .ok (.aload_n 0, 1) := by decide +kernel
theorem dX8_drawing_20 : decode cX8_drawing 20 = .ok (.iload_n 1, 1) := by decide +kernel
theorem dX8_drawing_21 : decode cX8_drawing 21 = .ok (.iload_n 2, 1) := by decide +kernel
theorem dX8_drawing_22 : decode cX8_drawing 22 = .ok (.iconst 1, 1) := by decide +kernel
theorem dX8_drawing_23 : decode cX8_drawing 23 = .ok (.iadd, 1) := by decide +kernel
theorem dX8_drawing_24 : decode cX8_drawing 24 = .ok (.invokevirtual 385, 3) := by decide +kernel
theorem dX8_drawing_27 : decode cX8_drawing 27 = .ok (.ireturn, 1) := by decide +kernel
theorem dX8_drawing_28 : decode cX8_drawing 28 = .ok (.aload_n 0, 1) := by decide +kernel
theorem dX8_drawing_29 : decode cX8_drawing 29 = .ok (.getfield 123, 3) := by decide +kernel
theorem dX8_drawing_32 : decode cX8_drawing 32 = .ok (.iload_n 1, 1) := by decide +kernel
theorem dX8_drawing_33 : decode cX8_drawing 33 = .ok (.iaload, 1) := by decide +kernel
theorem dX8_drawing_34 : decode cX8_drawing 34 = .ok (.bipush 7, 2) := by decide +kernel
theorem dX8_drawing_36 : decode cX8_drawing 36 = .ok (.if_icmp .ne 25, 3) := by decide +kernel
theorem dX8_drawing_39 : decode cX8_drawing 39 = .ok (.aload_n 0, 1) := by decide +kernel
theorem dX8_drawing_40 : decode cX8_drawing 40 = .ok (.bipush 80, 2) := by decide +kernel
theorem dX8_drawing_42 : decode cX8_drawing 42 = .ok (.invokevirtual 366, 3) := by decide +kernel
theorem dX8_drawing_45 : decode cX8_drawing 45 = .ok (.aload_n 0, 1) := by decide +kernel
theorem dX8_drawing_46 : decode cX8_drawing 46 = .ok (.iload_n 1, 1) := by decide +kernel
theorem dX8_drawing_47 : decode cX8_drawing 47 = .ok (.iload_n 2, 1) := by decide +kernel
theorem dX8_drawing_48 : decode cX8_drawing 48 = .ok (.invokevirtual 382, 3) := by decide +kernel
theorem dX8_drawing_51 : decode cX8_drawing 51 = .ok (.istore_n 3, 1) := by decide +kernel
theorem dX8_drawing_52 : decode cX8_drawing 52 = .ok (.iload_n 3, 1) := by decide +kernel
theorem dX8_drawing_53 : decode cX8_drawing 53 = .ok (.aload_n 0, 1) := by decide +kernel
theorem dX8_drawing_54 : decode cX8_drawing 54 = .ok (.iload_n 1, 1) := by decide +kernel
theorem dX8_drawing_55 : decode cX8_drawing 55 = .ok (.iconst 2, 1) := by decide +kernel
theorem dX8_drawing_56 : decode cX8_drawing 56 = .ok (.invokevirtual 388, 3) := by decide +kernel
theorem dX8_drawing_59 : decode cX8_drawing 59 = .ok (.iadd, 1) := by decide +kernel
theorem dX8_drawing_60 : decode cX8_drawing 60 = .ok (.ireturn, 1) := by decide +kernel
theorem dX8_drawing_61 : decode cX8_drawing 61 = .ok (.aload_n 0, 1) := by decide +kernel
theorem dX8_drawing_62 : decode cX8_drawing 62 = .ok (.getfield 123, 3) := by decide +kernel
theorem dX8_drawing_65 : decode cX8_drawing 65 = .ok (.iload_n 1, 1) := by decide +kernel
theorem dX8_drawing_66 : decode cX8_drawing 66 = .ok (.iaload, 1) := by decide +kernel
theorem dX8_drawing_67 : decode cX8_drawing 67 = .ok (.iconst 2, 1) := by decide +kernel
theorem dX8_drawing_68 : decode cX8_drawing 68 = .ok (.if_icmp .ne 12, 3) := by decide +kernel
theorem dX8_drawing_71 : decode cX8_drawing 71 = .ok (.aload_n 0, 1) := by decide +kernel
theorem dX8_drawing_72 : decode cX8_drawing 72 = .ok (.iload_n 1, 1) := by decide +kernel
theorem dX8_drawing_73 : decode cX8_drawing 73 = .ok (.iload_n 2, 1) := by decide +kernel
theorem dX8_drawing_74 : decode cX8_drawing 74 = .ok (.invokevirtual 385, 3) := by decide +kernel
theorem dX8_drawing_77 : decode cX8_drawing 77 = .ok (.goto 9, 3) := by decide +kernel
theorem dX8_drawing_80 : decode cX8_drawing 80 = .ok (.aload_n 0, 1) := by decide +kernel
theorem dX8_drawing_81 : decode cX8_drawing 81 = .ok (.iload_n 1, 1) := by decide +kernel
theorem dX8_drawing_82 : decode cX8_drawing 82 = .ok (.iload_n 2, 1) := by decide +kernel
theorem dX8_drawing_83 : decode cX8_drawing 83 = .ok (.invokevirtual 382, 3) := by decide +kernel
theorem dX8_drawing_86 : decode cX8_drawing 86 = .ok (.ireturn, 1) := by decide +kernel
theorem dX8_plainLeaves_0 : decode cX8_plainLeaves 0 = .ok (.aload_n 0, 1) := by decide +kernel
theorem dX8_plainLeaves_1 : decode cX8_plainLeaves 1 = .ok (.bipush 11, 2) := by decide +kernel
theorem dX8_plainLeaves_3 : decode cX8_plainLeaves 3 = .ok (.invokevirtual 366, 3) := by decide +kernel
theorem dX8_plainLeaves_6 : decode cX8_plainLeaves 6 = .ok (.iload_n 2, 1) := by decide +kernel
theorem dX8_plainLeaves_7 : decode cX8_plainLeaves 7 = .ok (.iload_n 1, 1) := by decide +kernel
theorem dX8_plainLeaves_8 : decode cX8_plainLeaves 8 = .ok (.ixor, 1) := by decide +kernel
theorem dX8_plainLeaves_9 : decode cX8_plainLeaves 9 = .ok (.ireturn, 1) := by decide +kernel
theorem dX8_testLeaves_0 : decode cX8_testLeaves 0 = .ok (.aload_n 0, 1) := by decide +kernel
theorem dX8_testLeaves_1 : decode cX8_testLeaves 1 = .ok (.bipush 40, 2) := by decide +kernel
theorem dX8_testLeaves_3 : decode cX8_testLeaves 3 = .ok (.invokevirtual 366, 3) := by decide +kernel
theorem dX8_testLeaves_6 : decode cX8_testLeaves 6 = .ok (.aload_n 0, 1) := by decide +kernel
theorem dX8_testLeaves_7 : decode cX8_testLeaves 7 = .ok (.iload_n 1, 1) := by decide +kernel
theorem dX8_testLeaves_8 : decode cX8_testLeaves 8 = .ok (.iload_n 2, 1) := by decide +kernel
theorem dX8_testLeaves_9 : decode cX8_testLeaves 9 = .ok (.invokevirtual 391, 3) := by decide +kernel
theorem dX8_testLeaves_12 : decode cX8_testLeaves 12 = .ok (.iconst 3, 1) := by decide +kernel
theorem dX8_testLeaves_13 : decode cX8_testLeaves 13 = .ok (.imul, 1) := by decide +kernel
theorem dX8_testLeaves_14 : decode cX8_testLeaves 14 = .ok (.ireturn, 1) := by decide +kernel
theorem dX8_leaving_0 : decode cX8_leaving 0 = .ok (.aload_n 0, 1) := by decide +kernel
theorem dX8_leaving_1 : decode cX8_leaving 1 = .ok (.getfield 123, 3) := by decide +kernel
theorem dX8_leaving_4 : decode cX8_leaving 4 = .ok (.iload_n 1, 1) := by decide +kernel
theorem dX8_leaving_5 : decode cX8_leaving 5 = .ok (.iaload, 1) := by decide +kernel
theorem dX8_leaving_6 : decode cX8_leaving 6 = .ok (.iconst 5, 1) := by decide +kernel
theorem dX8_leaving_7 : decode cX8_leaving 7 = .ok (.if_icmp .ne 25, 3) := by decide +kernel
theorem dX8_leaving_10 : decode cX8_leaving 10 = .ok (.aload_n 0, 1) := by decide +kernel
theorem dX8_leaving_11 : decode cX8_leaving 11 = .ok (.bipush 60, 2) := by decide +kernel
theorem dX8_leaving_13 : decode cX8_leaving 13 = .ok (.invokevirtual 366, 3) := by decide +kernel
theorem dX8_leaving_16 : decode cX8_leaving 16 = .ok (.aload_n 0, 1) := by decide +kernel
theorem dX8_leaving_17 : decode cX8_leaving 17 = .ok (.iload_n 1, 1) := by decide +kernel
theorem dX8_leaving_18 : decode cX8_leaving 18 = .ok (.iload_n 2, 1) := by decide +kernel
theorem dX8_leaving_19 : decode cX8_leaving 19 = .ok (.invokevirtual 394, 3) := by decide +kernel
theorem dX8_leaving_22 : decode cX8_leaving 22 = .ok (.istore_n 3, 1) := by decide +kernel
theorem dX8_leaving_23 : decode cX8_leaving 23 = .ok (.iload_n 3, 1) := by decide +kernel
theorem dX8_leaving_24 : decode cX8_leaving 24 = .ok (.aload_n 0, 1) := by decide +kernel
theorem dX8_leaving_25 : decode cX8_leaving 25 = .ok (.iload_n 1, 1) := by decide +kernel
theorem dX8_leaving_26 : decode cX8_leaving 26 = .ok (.iconst 2, 1) := by decide +kernel
theorem dX8_leaving_27 : decode cX8_leaving 27 = .ok (.invokevirtual 379, 3) := by decide +kernel
theorem dX8_leaving_30 : decode cX8_leaving 30 = .ok (.isub, 1) := by decide +kernel
theorem dX8_leaving_31 : decode cX8_leaving 31 = .ok (.ireturn, 1) := by decide +kernel
theorem dX8_leaving_32 : decode cX8_leaving 32 = .ok (.aload_n 0, 1) := by decide +kernel
theorem dX8_leaving_33 : decode cX8_leaving 33 = .ok (.getfield 123, 3) := by decide +kernel
theorem dX8_leaving_36 : decode cX8_leaving 36 = .ok (.iload_n 1, 1) := by decide +kernel
theorem dX8_leaving_37 : decode cX8_leaving 37 = .ok (.iaload, 1) := by decide +kernel
theorem dX8_leaving_38 : decode cX8_leaving 38 = .ok (.iconst 3, 1) := by decide +kernel
theorem dX8_leaving_39 : decode cX8_leaving 39 = .ok (.if_icmp .ne 12, 3) := by decide +kernel
theorem dX8_leaving_42 : decode cX8_leaving 42 = .ok (.aload_n 0, 1) := by decide +kernel
theorem dX8_leaving_43 : decode cX8_leaving 43 = .ok (.iload_n 1, 1) := by decide +kernel
theorem dX8_leaving_44 : decode cX8_leaving 44 = .ok (.iload_n 2, 1) := by decide +kernel
theorem dX8_leaving_45 : decode cX8_leaving 45 = .ok (.invokevirtual 394, 3) := by decide +kernel
theorem dX8_leaving_48 : decode cX8_leaving 48 = .ok (.goto 9, 3) := by decide +kernel
theorem dX8_leaving_51 : decode cX8_leaving 51 = .ok (.aload_n 0, 1) := by decide +kernel
theorem dX8_leaving_52 : decode cX8_leaving 52 = .ok (.iload_n 1, 1) := by decide +kernel
theorem dX8_leaving_53 : decode cX8_leaving 53 = .ok (.iload_n 2, 1) := by decide +kernel
theorem dX8_leaving_54 : decode cX8_leaving 54 = .ok (.invokevirtual 391, 3) := by decide +kernel
theorem dX8_leaving_57 : decode cX8_leaving 57 = .ok (.ireturn, 1) := by decide +kernel
theorem dX8_plainTells_0 : decode cX8_plainTells 0 = .ok (.aload_n 0, 1) := by decide +kernel
theorem dX8_plainTells_1 : decode cX8_plainTells 1 = .ok (.iconst 2, 1) := by decide +kernel
theorem dX8_plainTells_2 : decode cX8_plainTells 2 = .ok (.invokevirtual 366, 3) := by decide +kernel
theorem dX8_plainTells_5 : decode cX8_plainTells 5 = .ok (.aload_n 0, 1) := by decide +kernel
theorem dX8_plainTells_6 : decode cX8_plainTells 6 = .ok (.iload_n 1, 1) := by decide +kernel
theorem dX8_plainTells_7 : decode cX8_plainTells 7 = .ok (.iload_n 2, 1) := by decide +kernel
theorem dX8_plainTells_8 : decode cX8_plainTells 8 = .ok (.invokevirtual 397, 3) := by decide +kernel
theorem dX8_plainTells_11 : decode cX8_plainTells 11 = .ok (.istore_n 3, 1) := by decide +kernel
theorem dX8_plainTells_12 : decode cX8_plainTells 12 = .ok (.iload_n 3, 1) := by decide +kernel
theorem dX8_plainTells_13 : decode cX8_plainTells 13 = .ok (.aload_n 0, 1) := by decide +kernel
theorem dX8_plainTells_14 : decode cX8_plainTells 14 = .ok (.iload_n 1, 1) := by decide +kernel
theorem dX8_plainTells_15 : decode cX8_plainTells 15 = .ok (.iconst 1, 1) := by decide +kernel
theorem dX8_plainTells_16 : decode cX8_plainTells 16 = .ok (.invokevirtual 388, 3) := by decide +kernel
theorem dX8_plainTells_19 : decode cX8_plainTells 19 = .ok (.isub, 1) := by decide +kernel
theorem dX8_plainTells_20 : decode cX8_plainTells 20 = .ok (.ireturn, 1) := by decide +kernel
theorem dX8_telling_0 : decode cX8_telling 0 = .ok (.aload_n 0, 1) := by decide +kernel
theorem dX8_telling_1 : decode cX8_telling 1 = .ok (.getfield 123, 3) := by decide +kernel
theorem dX8_telling_4 : decode cX8_telling 4 = .ok (.iload_n 1, 1) := by decide +kernel
theorem dX8_telling_5 : decode cX8_telling 5 = .ok (.iaload, 1) := by decide +kernel
theorem dX8_telling_6 : decode cX8_telling 6 = .ok (.iconst 4, 1) := by decide +kernel
theorem dX8_telling_7 : decode cX8_telling 7 = .ok (.if_icmp .ne 18, 3) := by decide +kernel
theorem dX8_telling_10 : decode cX8_telling 10 = .ok (.aload_n 0, 1) := by decide +kernel
theorem dX8_telling_11 : decode cX8_telling 11 = .ok (.bipush 50, 2) := by decide +kernel
theorem dX8_telling_13 : decode cX8_telling 13 = .ok (.invokevirtual 366, 3) := by decide +kernel
theorem dX8_telling_16 : decode cX8_telling 16 = .ok (.aload_n 0, 1) := by decide +kernel
theorem dX8_telling_17 : decode cX8_telling 17 = .ok (.iload_n 1, 1) := by decide +kernel
theorem dX8_telling_18 : decode cX8_telling 18 = .ok (.iload_n 2, 1) := by decide +kernel
theorem dX8_telling_19 : decode cX8_telling 19 = .ok (.invokevirtual 400, 3) := by decide +kernel
theorem dX8_telling_22 : decode cX8_telling 22 = .ok (.iconst 5, 1) := by decide +kernel
theorem dX8_telling_23 : decode cX8_telling 23 = .ok (.ixor, 1) := by decide +kernel
theorem dX8_telling_24 : decode cX8_telling 24 = .ok (.ireturn, 1) := by decide +kernel
theorem dX8_telling_25 : decode cX8_telling 25 = .ok (.aload_n 0, 1) := by decide +kernel
theorem dX8_telling_26 : decode cX8_telling 26 = .ok (.getfield 123, 3) := by decide +kernel
theorem dX8_telling_29 : decode cX8_telling 29 = .ok (.iload_n 1, 1) := by decide +kernel
theorem dX8_telling_30 : decode cX8_telling 30 = .ok (.iaload, 1) := by decide +kernel
theorem dX8_telling_31 : decode cX8_telling 31 = .ok (.iconst 5, 1) := by decide +kernel
theorem dX8_telling_32 : decode cX8_telling 32 = .ok (.if_icmp .ne 18, 3) := by decide +kernel
theorem dX8_telling_35 : decode cX8_telling 35 = .ok (.aload_n 0, 1) := by decide +kernel
theorem dX8_telling_36 : decode cX8_telling 36 = .ok (.bipush 61, 2) := by decide +kernel
theorem dX8_telling_38 : decode cX8_telling 38 = .ok (.invokevirtual 366, 3) := by decide +kernel
theorem dX8_telling_41 : decode cX8_telling 41 = .ok (.aload_n 0, 1) := by decide +kernel
theorem dX8_telling_42 : decode cX8_telling 42 = .ok (.iload_n 1, 1) := by decide +kernel
theorem dX8_telling_43 : decode cX8_telling 43 = .ok (.iload_n 2, 1) := by decide +kernel
theorem dX8_telling_44 : decode cX8_telling 44 = .ok (.invokevirtual 400, 3) := by decide +kernel
theorem dX8_telling_47 : decode cX8_telling 47 = .ok (.iconst 1, 1) := by decide +kernel
theorem dX8_telling_48 : decode cX8_telling 48 = .ok (.iadd, 1) := by decide +kernel
theorem dX8_telling_49 : decode cX8_telling 49 = .ok (.ireturn, 1) := by decide +kernel
theorem dX8_telling_50 : decode cX8_telling 50 = .ok (.aload_n 0, 1) := by decide +kernel
theorem dX8_telling_51 : decode cX8_telling 51 = .ok (.iload_n 1, 1) := by decide +kernel
theorem dX8_telling_52 : decode cX8_telling 52 = .ok (.iload_n 2, 1) := by decide +kernel
theorem dX8_telling_53 : decode cX8_telling 53 = .ok (.invokevirtual 400, 3) := by decide +kernel
theorem dX8_telling_56 : decode cX8_telling 56 = .ok (.ireturn, 1) := by decide +kernel
theorem dX8_act_0 : decode cX8_act 0 = .ok (.aload_n 0, 1) := by decide +kernel
theorem dX8_act_1 : decode cX8_act 1 = .ok (.iconst 0, 1) := by decide +kernel
theorem dX8_act_2 : decode cX8_act 2 = .ok (.putfield 363, 3) := by decide +kernel
theorem dX8_act_5 : decode cX8_act 5 = .ok (.aload_n 0, 1) := by decide +kernel
theorem dX8_act_6 : decode cX8_act 6 = .ok (.iload_n 1, 1) := by decide +kernel
theorem dX8_act_7 : decode cX8_act 7 = .ok (.invokevirtual 403, 3) := by decide +kernel
theorem dX8_act_10 : decode cX8_act 10 = .ok (.ifCond .eq 12, 3) := by decide +kernel
theorem dX8_act_13 : decode cX8_act 13 = .ok (.iload_n 2, 1) := by decide +kernel
theorem dX8_act_14 : decode cX8_act 14 = .ok (.iconst 0, 1) := by decide +kernel
theorem dX8_act_15 : decode cX8_act 15 = .ok (.iconst 3, 1) := by decide +kernel
theorem dX8_act_16 : decode cX8_act 16 = .ok (.invokestatic 148, 3) := by decide +kernel
theorem dX8_act_19 : decode cX8_act 19 = .ok (.ifCond .ne 5, 3) := by decide +kernel
theorem dX8_act_22 : decode cX8_act 22 = .ok (.iconst 0, 1) := by decide +kernel
theorem dX8_act_23 : decode cX8_act 23 = .ok (.ireturn, 1) := by decide +kernel
theorem dX8_act_24 : decode cX8_act 24 = .ok (.iload_n 2, 1) := by decide +kernel
theorem dX8_act_25 : decode cX8_act 25 = .ok (.ifCond .ne 12, 3) := by decide +kernel
theorem dX8_act_28 : decode cX8_act 28 = .ok (.aload_n 0, 1) := by decide +kernel
theorem dX8_act_29 : decode cX8_act 29 = .ok (.iload_n 1, 1) := by decide +kernel
theorem dX8_act_30 : decode cX8_act 30 = .ok (.iload_n 3, 1) := by decide +kernel
theorem dX8_act_31 : decode cX8_act 31 = .ok (.invokevirtual 379, 3) := by decide +kernel
theorem dX8_act_34 : decode cX8_act 34 = .ok (.goto 37, 3) := by decide +kernel
theorem dX8_act_37 : decode cX8_act 37 = .ok (.iload_n 2, 1) := by decide +kernel
theorem dX8_act_38 : decode cX8_act 38 = .ok (.iconst 1, 1) := by decide +kernel
theorem dX8_act_39 : decode cX8_act 39 = .ok (.if_icmp .ne 12, 3) := by decide +kernel
theorem dX8_act_42 : decode cX8_act 42 = .ok (.aload_n 0, 1) := by decide +kernel
theorem dX8_act_43 : decode cX8_act 43 = .ok (.iload_n 1, 1) := by decide +kernel
theorem dX8_act_44 : decode cX8_act 44 = .ok (.iload_n 3, 1) := by decide +kernel
theorem dX8_act_45 : decode cX8_act 45 = .ok (.invokevirtual 397, 3) := by decide +kernel
theorem dX8_act_48 : decode cX8_act 48 = .ok (.goto 23, 3) := by decide +kernel
theorem dX8_act_51 : decode cX8_act 51 = .ok (.iload_n 2, 1) := by decide +kernel
theorem dX8_act_52 : decode cX8_act 52 = .ok (.iconst 2, 1) := by decide +kernel
theorem dX8_act_53 : decode cX8_act 53 = .ok (.if_icmp .ne 12, 3) := by decide +kernel
theorem dX8_act_56 : decode cX8_act 56 = .ok (.aload_n 0, 1) := by decide +kernel
theorem dX8_act_57 : decode cX8_act 57 = .ok (.iload_n 1, 1) := by decide +kernel
theorem dX8_act_58 : decode cX8_act 58 = .ok (.iload_n 3, 1) := by decide +kernel
theorem dX8_act_59 : decode cX8_act 59 = .ok (.invokevirtual 388, 3) := by decide +kernel
theorem dX8_act_62 : decode cX8_act 62 = .ok (.goto 9, 3) := by decide +kernel
theorem dX8_act_65 : decode cX8_act 65 = .ok (.aload_n 0, 1) := by decide +kernel
theorem dX8_act_66 : decode cX8_act 66 = .ok (.iload_n 1, 1) := by decide +kernel
theorem dX8_act_67 : decode cX8_act 67 = .ok (.iload_n 3, 1) := by decide +kernel
theorem dX8_act_68 : decode cX8_act 68 = .ok (.invokevirtual 406, 3) := by decide +kernel
theorem dX8_act_71 : decode cX8_act 71 = .ok (.ireturn, 1) := by decide +kernel
theorem dX8_count_0 : decode cX8_count 0 = .ok (.iload_n 1, 1) := by decide +kernel
theorem dX8_count_1 : decode cX8_count 1 = .ok (.tableswitch 69 0 5 #[39, 44, 49, 54, 59, 64], 39) := by decide +kernel
theorem dX8_count_40 : decode cX8_count 40 = .ok (.aload_n 0, 1) := by decide +kernel
theorem dX8_count_41 : decode cX8_count 41 = .ok (.getfield 145, 3) := by decide +kernel
theorem dX8_count_44 : decode cX8_count 44 = .ok (.ireturn, 1) := by decide +kernel
theorem dX8_count_45 : decode cX8_count 45 = .ok (.aload_n 0, 1) := by decide +kernel
theorem dX8_count_46 : decode cX8_count 46 = .ok (.invokevirtual 354, 3) := by decide +kernel
theorem dX8_count_49 : decode cX8_count 49 = .ok (.ireturn, 1) := by decide +kernel
theorem dX8_count_50 : decode cX8_count 50 = .ok (.aload_n 0, 1) := by decide +kernel
theorem dX8_count_51 : decode cX8_count 51 = .ok (.getfield 200, 3) := by decide +kernel
theorem dX8_count_54 : decode cX8_count 54 = .ok (.ireturn, 1) := by decide +kernel
theorem dX8_count_55 : decode cX8_count 55 = .ok (.aload_n 0, 1) := by decide +kernel
theorem dX8_count_56 : decode cX8_count 56 = .ok (.getfield 175, 3) := by decide +kernel
theorem dX8_count_59 : decode cX8_count 59 = .ok (.ireturn, 1) := by decide +kernel
theorem dX8_count_60 : decode cX8_count 60 = .ok (.aload_n 0, 1) := by decide +kernel
theorem dX8_count_61 : decode cX8_count 61 = .ok (.getfield 360, 3) := by decide +kernel
theorem dX8_count_64 : decode cX8_count 64 = .ok (.ireturn, 1) := by decide +kernel
theorem dX8_count_65 : decode cX8_count 65 = .ok (.aload_n 0, 1) := by decide +kernel
theorem dX8_count_66 : decode cX8_count 66 = .ok (.getfield 363, 3) := by decide +kernel
theorem dX8_count_69 : decode cX8_count 69 = .ok (.ireturn, 1) := by decide +kernel
theorem dX8_count_70 : decode cX8_count 70 = .ok (.iconst (-1), 1) := by decide +kernel
theorem dX8_count_71 : decode cX8_count 71 = .ok (.ireturn, 1) := by decide +kernel
theorem dX8_isShelf_0 : decode cX8_isShelf 0 = .ok (.iload_n 0, 1) := by decide +kernel
theorem dX8_isShelf_1 : decode cX8_isShelf 1 = .ok (.iconst 0, 1) := by decide +kernel
theorem dX8_isShelf_2 : decode cX8_isShelf 2 = .ok (.iconst 5, 1) := by decide +kernel
theorem dX8_isShelf_3 : decode cX8_isShelf 3 = .ok (.invokestatic 148, 3) := by decide +kernel
theorem dX8_isShelf_6 : decode cX8_isShelf 6 = .ok (.ireturn, 1) := by decide +kernel
theorem dX8_keep_0 : decode cX8_keep 0 = .ok (.iload_n 1, 1) := by decide +kernel
theorem dX8_keep_1 : decode cX8_keep 1 = .ok (.invokestatic 163, 3) := by decide +kernel
theorem dX8_keep_4 : decode cX8_keep 4 = .ok (.ifCond .eq 16, 3) := by decide +kernel
theorem dX8_keep_7 : decode cX8_keep 7 = .ok (.iload_n 2, 1) := by decide +kernel
theorem dX8_keep_8 : decode cX8_keep 8 = .ok (.iconst (-1), 1) := by decide +kernel
theorem dX8_keep_9 : decode cX8_keep 9 = .ok (.if_icmp .eq 13, 3) := by decide +kernel
theorem dX8_keep_12 : decode cX8_keep 12 = .ok (.aload_n 0, 1) := by decide +kernel
theorem dX8_keep_13 : decode cX8_keep 13 = .ok (.iload_n 2, 1) := by decide +kernel
theorem dX8_keep_14 : decode cX8_keep 14 = .ok (.invokevirtual 403, 3) := by decide +kernel
theorem dX8_keep_17 : decode cX8_keep 17 = .ok (.ifCond .ne 5, 3) := by decide +kernel
theorem dX8_keep_20 : decode cX8_keep 20 = .ok (.iconst (-1), 1) := by decide +kernel
theorem dX8_keep_21 : decode cX8_keep 21 = .ok (.ireturn, 1) := by decide +kernel
theorem dX8_keep_22 : decode cX8_keep 22 = .ok (.aload_n 0, 1) := by decide +kernel
theorem dX8_keep_23 : decode cX8_keep 23 = .ok (.getfield 129, 3) := by decide +kernel
theorem dX8_keep_26 : decode cX8_keep 26 = .ok (.iload_n 1, 1) := by decide +kernel
theorem dX8_keep_27 : decode cX8_keep 27 = .ok (.iload_n 2, 1) := by decide +kernel
theorem dX8_keep_28 : decode cX8_keep 28 = .ok (.iastore, 1) := by decide +kernel
theorem dX8_keep_29 : decode cX8_keep 29 = .ok (.iconst 1, 1) := by decide +kernel
theorem dX8_keep_30 : decode cX8_keep 30 = .ok (.ireturn, 1) := by decide +kernel
theorem dX8_row_0 : decode cX8_row 0 = .ok (.iload_n 1, 1) := by decide +kernel
theorem dX8_row_1 : decode cX8_row 1 = .ok (.invokestatic 163, 3) := by decide +kernel
theorem dX8_row_4 : decode cX8_row 4 = .ok (.ifCond .eq 18, 3) := by decide +kernel
theorem dX8_row_7 : decode cX8_row 7 = .ok (.iload_n 2, 1) := by decide +kernel
theorem dX8_row_8 : decode cX8_row 8 = .ok (.iconst 0, 1) := by decide +kernel
theorem dX8_row_9 : decode cX8_row 9 = .ok (.iconst 4, 1) := by decide +kernel
theorem dX8_row_10 : decode cX8_row 10 = .ok (.invokestatic 148, 3) := by decide +kernel
theorem dX8_row_13 : decode cX8_row 13 = .ok (.ifCond .eq 9, 3) := by decide +kernel
theorem dX8_row_16 : decode cX8_row 16 = .ok (.iload_n 3, 1) := by decide +kernel
theorem dX8_row_17 : decode cX8_row 17 = .ok (.bipush 60, 2) := by decide +kernel
theorem dX8_row_19 : decode cX8_row 19 = .ok (.if_icmp .le 5, 3) := by decide +kernel
theorem dX8_row_22 : decode cX8_row 22 = .ok (.iconst (-1), 1) := by decide +kernel
theorem dX8_row_23 : decode cX8_row 23 = .ok (.ireturn, 1) := by decide +kernel
theorem dX8_row_24 : decode cX8_row 24 = .ok (.iload_n 3, 1) := by decide +kernel
theorem dX8_row_25 : decode cX8_row 25 = .ok (.ifCond .ge 6, 3) := by decide +kernel
theorem dX8_row_28 : decode cX8_row 28 = .ok (.bipush (-14), 2) := by decide +kernel
theorem dX8_row_30 : decode cX8_row 30 = .ok (.ireturn, 1) := by decide +kernel
theorem dX8_row_31 : decode cX8_row 31 = .ok (.aload_n 0, 1) := by decide +kernel
theorem dX8_row_32 : decode cX8_row 32 = .ok (.getfield 129, 3) := by decide +kernel
theorem dX8_row_35 : decode cX8_row 35 = .ok (.iload_n 1, 1) := by decide +kernel
theorem dX8_row_36 : decode cX8_row 36 = .ok (.bipush (-2), 2) := by decide +kernel
theorem dX8_row_38 : decode cX8_row 38 = .ok (.iload_n 2, 1) := by decide +kernel
theorem dX8_row_39 : decode cX8_row 39 = .ok (.isub, 1) := by decide +kernel
theorem dX8_row_40 : decode cX8_row 40 = .ok (.iastore, 1) := by decide +kernel
theorem dX8_row_41 : decode cX8_row 41 = .ok (.aload_n 0, 1) := by decide +kernel
theorem dX8_row_42 : decode cX8_row 42 = .ok (.getfield 132, 3) := by decide +kernel
theorem dX8_row_45 : decode cX8_row 45 = .ok (.iload_n 1, 1) := by decide +kernel
theorem dX8_row_46 : decode cX8_row 46 = .ok (.iload_n 3, 1) := by decide +kernel
theorem dX8_row_47 : decode cX8_row 47 = .ok (.iastore, 1) := by decide +kernel
theorem dX8_row_48 : decode cX8_row 48 = .ok (.bipush 60, 2) := by decide +kernel
theorem dX8_row_50 : decode cX8_row 50 = .ok (.iload_n 1, 1) := by decide +kernel
theorem dX8_row_51 : decode cX8_row 51 = .ok (.imul, 1) := by decide +kernel
theorem dX8_row_52 : decode cX8_row 52 = .ok (.istore 4, 2) := by decide +kernel
theorem dX8_row_54 : decode cX8_row 54 = .ok (.iload 4, 2) := by decide +kernel
theorem dX8_row_56 : decode cX8_row 56 = .ok (.bipush 60, 2) := by decide +kernel
theorem dX8_row_58 : decode cX8_row 58 = .ok (.iload_n 1, 1) := by decide +kernel
theorem dX8_row_59 : decode cX8_row 59 = .ok (.imul, 1) := by decide +kernel
theorem dX8_row_60 : decode cX8_row 60 = .ok (.bipush 60, 2) := by decide +kernel
theorem dX8_row_62 : decode cX8_row 62 = .ok (.iadd, 1) := by decide +kernel
theorem dX8_row_63 : decode cX8_row 63 = .ok (.if_icmp .ge 17, 3) := by decide +kernel
theorem dX8_row_66 : decode cX8_row 66 = .ok (.aload_n 0, 1) := by decide +kernel
theorem dX8_row_67 : decode cX8_row 67 = .ok (.getfield 135, 3) := by decide +kernel
theorem dX8_row_70 : decode cX8_row 70 = .ok (.iload 4, 2) := by decide +kernel
theorem dX8_row_72 : decode cX8_row 72 = .ok (.lconst 0, 1) := by decide +kernel
theorem dX8_row_73 : decode cX8_row 73 = .ok (.lastore, 1) := by decide +kernel
theorem dX8_row_74 : decode cX8_row 74 = .ok (.iinc 4 1, 3) := by decide +kernel
theorem dX8_row_77 : decode cX8_row 77 = .ok (.goto (-23), 3) := by decide +kernel
theorem dX8_row_80 : decode cX8_row 80 = .ok (.iconst 1, 1) := by decide +kernel
theorem dX8_row_81 : decode cX8_row 81 = .ok (.ireturn, 1) := by decide +kernel
theorem dX8_whyNoPlace_0 : decode cX8_whyNoPlace 0 = .ok (.iload_n 1, 1) := by decide +kernel
theorem dX8_whyNoPlace_1 : decode cX8_whyNoPlace 1 = .ok (.invokestatic 163, 3) := by decide +kernel
theorem dX8_whyNoPlace_4 : decode cX8_whyNoPlace 4 = .ok (.ifCond .ne 5, 3) := by decide +kernel
theorem dX8_whyNoPlace_7 : decode cX8_whyNoPlace 7 = .ok (.iconst (-1), 1) := by decide +kernel
theorem dX8_whyNoPlace_8 : decode cX8_whyNoPlace 8 = .ok (.ireturn, 1) := by decide +kernel
theorem dX8_whyNoPlace_9 : decode cX8_whyNoPlace 9 = .ok (.aload_n 0, 1) := by decide +kernel
theorem dX8_whyNoPlace_10 : decode cX8_whyNoPlace 10 = .ok (.getfield 129, 3) := by decide +kernel
theorem dX8_whyNoPlace_13 : decode cX8_whyNoPlace 13 = .ok (.iload_n 1, 1) := by decide +kernel
theorem dX8_whyNoPlace_14 : decode cX8_whyNoPlace 14 = .ok (.iaload, 1) := by decide +kernel
theorem dX8_whyNoPlace_15 : decode cX8_whyNoPlace 15 = .ok (.iconst (-1), 1) := by decide +kernel
theorem dX8_whyNoPlace_16 : decode cX8_whyNoPlace 16 = .ok (.if_icmp .ne 6, 3) := by decide +kernel
theorem dX8_whyNoPlace_19 : decode cX8_whyNoPlace 19 = .ok (.bipush (-11), 2) := by decide +kernel
theorem dX8_whyNoPlace_21 : decode cX8_whyNoPlace 21 = .ok (.ireturn, 1) := by decide +kernel
theorem dX8_whyNoPlace_22 : decode cX8_whyNoPlace 22 = .ok (.aload_n 0, 1) := by decide +kernel
theorem dX8_whyNoPlace_23 : decode cX8_whyNoPlace 23 = .ok (.getfield 129, 3) := by decide +kernel
theorem dX8_whyNoPlace_26 : decode cX8_whyNoPlace 26 = .ok (.iload_n 1, 1) := by decide +kernel
theorem dX8_whyNoPlace_27 : decode cX8_whyNoPlace 27 = .ok (.iaload, 1) := by decide +kernel
theorem dX8_whyNoPlace_28 : decode cX8_whyNoPlace 28 = .ok (.ifCond .lt 6, 3) := by decide +kernel
theorem dX8_whyNoPlace_31 : decode cX8_whyNoPlace 31 = .ok (.bipush (-12), 2) := by decide +kernel
theorem dX8_whyNoPlace_33 : decode cX8_whyNoPlace 33 = .ok (.ireturn, 1) := by decide +kernel
theorem dX8_whyNoPlace_34 : decode cX8_whyNoPlace 34 = .ok (.iload_n 2, 1) := by decide +kernel
theorem dX8_whyNoPlace_35 : decode cX8_whyNoPlace 35 = .ok (.iconst 0, 1) := by decide +kernel
theorem dX8_whyNoPlace_36 : decode cX8_whyNoPlace 36 = .ok (.aload_n 0, 1) := by decide +kernel
theorem dX8_whyNoPlace_37 : decode cX8_whyNoPlace 37 = .ok (.getfield 132, 3) := by decide +kernel
theorem dX8_whyNoPlace_40 : decode cX8_whyNoPlace 40 = .ok (.iload_n 1, 1) := by decide +kernel
theorem dX8_whyNoPlace_41 : decode cX8_whyNoPlace 41 = .ok (.iaload, 1) := by decide +kernel
theorem dX8_whyNoPlace_42 : decode cX8_whyNoPlace 42 = .ok (.iconst 1, 1) := by decide +kernel
theorem dX8_whyNoPlace_43 : decode cX8_whyNoPlace 43 = .ok (.isub, 1) := by decide +kernel
theorem dX8_whyNoPlace_44 : decode cX8_whyNoPlace 44 = .ok (.invokestatic 148, 3) := by decide +kernel
theorem dX8_whyNoPlace_47 : decode cX8_whyNoPlace 47 = .ok (.ifCond .eq 7, 3) := by decide +kernel
theorem dX8_whyNoPlace_50 : decode cX8_whyNoPlace 50 = .ok (.iconst 0, 1) := by decide +kernel
theorem dX8_whyNoPlace_51 : decode cX8_whyNoPlace 51 = .ok (.goto 5, 3) := by decide +kernel
theorem dX8_whyNoPlace_54 : decode cX8_whyNoPlace 54 = .ok (.bipush (-13), 2) := by decide +kernel
theorem dX8_whyNoPlace_56 : decode cX8_whyNoPlace 56 = .ok (.ireturn, 1) := by decide +kernel
theorem dX8_put_0 : decode cX8_put 0 = .ok (.aload_n 0, 1) := by decide +kernel
theorem dX8_put_1 : decode cX8_put 1 = .ok (.iload_n 1, 1) := by decide +kernel
theorem dX8_put_2 : decode cX8_put 2 = .ok (.iload_n 2, 1) := by decide +kernel
theorem dX8_put_3 : decode cX8_put 3 = .ok (.invokevirtual 409, 3) := by decide +kernel
theorem dX8_put_6 : decode cX8_put 6 = .ok (.istore 5, 2) := by decide +kernel
theorem dX8_put_8 : decode cX8_put 8 = .ok (.iload 5, 2) := by decide +kernel
theorem dX8_put_10 : decode cX8_put 10 = .ok (.ifCond .ge 6, 3) := by decide +kernel
theorem dX8_put_13 : decode cX8_put 13 = .ok (.iload 5, 2) := by decide +kernel
theorem dX8_put_15 : decode cX8_put 15 = .ok (.ireturn, 1) := by decide +kernel
theorem dX8_put_16 : decode cX8_put 16 = .ok (.bipush (-2), 2) := by decide +kernel
theorem dX8_put_18 : decode cX8_put 18 = .ok (.aload_n 0, 1) := by decide +kernel
theorem dX8_put_19 : decode cX8_put 19 = .ok (.getfield 129, 3) := by decide +kernel
theorem dX8_put_22 : decode cX8_put 22 = .ok (.iload_n 1, 1) := by decide +kernel
theorem dX8_put_23 : decode cX8_put 23 = .ok (.iaload, 1) := by decide +kernel
theorem dX8_put_24 : decode cX8_put 24 = .ok (.isub, 1) := by decide +kernel
theorem dX8_put_25 : decode cX8_put 25 = .ok (.istore 6, 2) := by decide +kernel
theorem dX8_put_27 : decode cX8_put 27 = .ok (.aload_n 0, 1) := by decide +kernel
theorem dX8_put_28 : decode cX8_put 28 = .ok (.getfield 135, 3) := by decide +kernel
theorem dX8_put_31 : decode cX8_put 31 = .ok (.bipush 60, 2) := by decide +kernel
theorem dX8_put_33 : decode cX8_put 33 = .ok (.iload_n 1, 1) := by decide +kernel
theorem dX8_put_34 : decode cX8_put 34 = .ok (.imul, 1) := by decide +kernel
theorem dX8_put_35 : decode cX8_put 35 = .ok (.iload_n 2, 1) := by decide +kernel
theorem dX8_put_36 : decode cX8_put 36 = .ok (.iadd, 1) := by decide +kernel
theorem dX8_put_37 : decode cX8_put 37 = .ok (.iload 6, 2) := by decide +kernel
theorem dX8_put_39 : decode cX8_put 39 = .ok (.ifCond .ne 10, 3) := by decide +kernel
theorem dX8_put_42 : decode cX8_put 42 = .ok (.lload_n 3, 1) := by decide +kernel
theorem dX8_put_43 : decode cX8_put 43 = .ok (.l2i, 1) := by decide +kernel
theorem dX8_put_44 : decode cX8_put 44 = .ok (.i2b, 1) := by decide +kernel
theorem dX8_put_45 : decode cX8_put 45 = .ok (.i2l, 1) := by decide +kernel
theorem dX8_put_46 : decode cX8_put 46 = .ok (.goto 49, 3) := by decide +kernel
theorem dX8_put_49 : decode cX8_put 49 = .ok (.iload 6, 2) := by decide +kernel
theorem dX8_put_51 : decode cX8_put 51 = .ok (.iconst 1, 1) := by decide +kernel
theorem dX8_put_52 : decode cX8_put 52 = .ok (.if_icmp .ne 10, 3) := by decide +kernel
theorem dX8_put_55 : decode cX8_put 55 = .ok (.lload_n 3, 1) := by decide +kernel
theorem dX8_put_56 : decode cX8_put 56 = .ok (.l2i, 1) := by decide +kernel
theorem dX8_put_57 : decode cX8_put 57 = .ok (.i2s, 1) := by decide +kernel
theorem dX8_put_58 : decode cX8_put 58 = .ok (.i2l, 1) := by decide +kernel
theorem dX8_put_59 : decode cX8_put 59 = .ok (.goto 36, 3) := by decide +kernel
theorem dX8_put_62 : decode cX8_put 62 = .ok (.iload 6, 2) := by decide +kernel
theorem dX8_put_64 : decode cX8_put 64 = .ok (.iconst 2, 1) := by decide +kernel
theorem dX8_put_65 : decode cX8_put 65 = .ok (.if_icmp .ne 9, 3) := by decide +kernel
theorem dX8_put_68 : decode cX8_put 68 = .ok (.lload_n 3, 1) := by decide +kernel
theorem dX8_put_69 : decode cX8_put 69 = .ok (.l2i, 1) := by decide +kernel
theorem dX8_put_70 : decode cX8_put 70 = .ok (.i2l, 1) := by decide +kernel
theorem dX8_put_71 : decode cX8_put 71 = .ok (.goto 24, 3) := by decide +kernel
theorem dX8_put_74 : decode cX8_put 74 = .ok (.iload 6, 2) := by decide +kernel
theorem dX8_put_76 : decode cX8_put 76 = .ok (.iconst 3, 1) := by decide +kernel
theorem dX8_put_77 : decode cX8_put 77 = .ok (.if_icmp .ne 7, 3) := by decide +kernel
theorem dX8_put_80 : decode cX8_put 80 = .ok (.lload_n 3, 1) := by decide +kernel
theorem dX8_put_81 : decode cX8_put 81 = .ok (.goto 14, 3) := by decide +kernel
theorem dX8_put_84 : decode cX8_put 84 = .ok (.lload_n 3, 1) := by decide +kernel
theorem dX8_put_85 : decode cX8_put 85 = .ok (.lconst 0, 1) := by decide +kernel
theorem dX8_put_86 : decode cX8_put 86 = .ok (.lcmp, 1) := by decide +kernel
theorem dX8_put_87 : decode cX8_put 87 = .ok (.ifCond .eq 7, 3) := by decide +kernel
theorem dX8_put_90 : decode cX8_put 90 = .ok (.lconst 1, 1) := by decide +kernel
theorem dX8_put_91 : decode cX8_put 91 = .ok (.goto 4, 3) := by decide +kernel
theorem dX8_put_94 : decode cX8_put 94 = .ok (.lconst 0, 1) := by decide +kernel
theorem dX8_put_95 : decode cX8_put 95 = .ok (.lastore, 1) := by decide +kernel
theorem dX8_put_96 : decode cX8_put 96 = .ok (.iconst 1, 1) := by decide +kernel
theorem dX8_put_97 : decode cX8_put 97 = .ok (.ireturn, 1) := by decide +kernel
theorem dX8_element_0 : decode cX8_element 0 = .ok (.aload_n 0, 1) := by decide +kernel
theorem dX8_element_1 : decode cX8_element 1 = .ok (.iload_n 1, 1) := by decide +kernel
theorem dX8_element_2 : decode cX8_element 2 = .ok (.iload_n 2, 1) := by decide +kernel
theorem dX8_element_3 : decode cX8_element 3 = .ok (.invokevirtual 409, 3) := by decide +kernel
theorem dX8_element_6 : decode cX8_element 6 = .ok (.ifCond .ge 9, 3) := by decide +kernel
theorem dX8_element_9 : decode cX8_element 9 = .ok (.ldc2_w 294, 3) := by decide +kernel
theorem dX8_element_12 : decode cX8_element 12 = .ok (.goto 14, 3) := by decide +kernel
theorem dX8_element_15 : decode cX8_element 15 = .ok (.aload_n 0, 1) := by decide +kernel
theorem dX8_element_16 : decode cX8_element 16 = .ok (.getfield 135, 3) := by decide +kernel
theorem dX8_element_19 : decode cX8_element 19 = .ok (.bipush 60, 2) := by decide +kernel
theorem dX8_element_21 : decode cX8_element 21 = .ok (.iload_n 1, 1) := by decide +kernel
theorem dX8_element_22 : decode cX8_element 22 = .ok (.imul, 1) := by decide +kernel
theorem dX8_element_23 : decode cX8_element 23 = .ok (.iload_n 2, 1) := by decide +kernel
theorem dX8_element_24 : decode cX8_element 24 = .ok (.iadd, 1) := by decide +kernel
theorem dX8_element_25 : decode cX8_element 25 = .ok (.laload, 1) := by decide +kernel
theorem dX8_element_26 : decode cX8_element 26 = .ok (.lreturn, 1) := by decide +kernel
theorem dX8_shift_0 : decode cX8_shift 0 = .ok (.iload_n 1, 1) := by decide +kernel
theorem dX8_shift_1 : decode cX8_shift 1 = .ok (.invokestatic 163, 3) := by decide +kernel
theorem dX8_shift_4 : decode cX8_shift 4 = .ok (.ifCond .eq 10, 3) := by decide +kernel
theorem dX8_shift_7 : decode cX8_shift 7 = .ok (.iload_n 3, 1) := by decide +kernel
theorem dX8_shift_8 : decode cX8_shift 8 = .ok (.invokestatic 163, 3) := by decide +kernel
theorem dX8_shift_11 : decode cX8_shift 11 = .ok (.ifCond .ne 5, 3) := by decide +kernel
theorem dX8_shift_14 : decode cX8_shift 14 = .ok (.iconst (-1), 1) := by decide +kernel
theorem dX8_shift_15 : decode cX8_shift 15 = .ok (.ireturn, 1) := by decide +kernel
theorem dX8_shift_16 : decode cX8_shift 16 = .ok (.aload_n 0, 1) := by decide +kernel
theorem dX8_shift_17 : decode cX8_shift 17 = .ok (.getfield 129, 3) := by decide +kernel
theorem dX8_shift_20 : decode cX8_shift 20 = .ok (.iload_n 1, 1) := by decide +kernel
theorem dX8_shift_21 : decode cX8_shift 21 = .ok (.iaload, 1) := by decide +kernel
theorem dX8_shift_22 : decode cX8_shift 22 = .ok (.iconst (-1), 1) := by decide +kernel
theorem dX8_shift_23 : decode cX8_shift 23 = .ok (.if_icmp .eq 13, 3) := by decide +kernel
theorem dX8_shift_26 : decode cX8_shift 26 = .ok (.aload_n 0, 1) := by decide +kernel
theorem dX8_shift_27 : decode cX8_shift 27 = .ok (.getfield 129, 3) := by decide +kernel
theorem dX8_shift_30 : decode cX8_shift 30 = .ok (.iload_n 3, 1) := by decide +kernel
theorem dX8_shift_31 : decode cX8_shift 31 = .ok (.iaload, 1) := by decide +kernel
theorem dX8_shift_32 : decode cX8_shift 32 = .ok (.iconst (-1), 1) := by decide +kernel
theorem dX8_shift_33 : decode cX8_shift 33 = .ok (.if_icmp .ne 6, 3) := by decide +kernel
theorem dX8_shift_36 : decode cX8_shift 36 = .ok (.bipush (-11), 2) := by decide +kernel
theorem dX8_shift_38 : decode cX8_shift 38 = .ok (.ireturn, 1) := by decide +kernel
theorem dX8_shift_39 : decode cX8_shift 39 = .ok (.aload_n 0, 1) := by decide +kernel
theorem dX8_shift_40 : decode cX8_shift 40 = .ok (.getfield 129, 3) := by decide +kernel
theorem dX8_shift_43 : decode cX8_shift 43 = .ok (.iload_n 1, 1) := by decide +kernel
theorem dX8_shift_44 : decode cX8_shift 44 = .ok (.iaload, 1) := by decide +kernel
theorem dX8_shift_45 : decode cX8_shift 45 = .ok (.ifCond .ge 18, 3) := by decide +kernel
theorem dX8_shift_48 : decode cX8_shift 48 = .ok (.aload_n 0, 1) := by decide +kernel
theorem dX8_shift_49 : decode cX8_shift 49 = .ok (.getfield 129, 3) := by decide +kernel
theorem dX8_shift_52 : decode cX8_shift 52 = .ok (.iload_n 1, 1) := by decide +kernel
theorem dX8_shift_53 : decode cX8_shift 53 = .ok (.iaload, 1) := by decide +kernel
theorem dX8_shift_54 : decode cX8_shift 54 = .ok (.aload_n 0, 1) := by decide +kernel
theorem dX8_shift_55 : decode cX8_shift 55 = .ok (.getfield 129, 3) := by decide +kernel
theorem dX8_shift_58 : decode cX8_shift 58 = .ok (.iload_n 3, 1) := by decide +kernel
theorem dX8_shift_59 : decode cX8_shift 59 = .ok (.iaload, 1) := by decide +kernel
theorem dX8_shift_60 : decode cX8_shift 60 = .ok (.if_icmp .eq 6, 3) := by decide +kernel
theorem dX8_shift_63 : decode cX8_shift 63 = .ok (.bipush (-12), 2) := by decide +kernel
theorem dX8_shift_65 : decode cX8_shift 65 = .ok (.ireturn, 1) := by decide +kernel
theorem dX8_shift_66 : decode cX8_shift 66 = .ok (.iload 5, 2) := by decide +kernel
theorem dX8_shift_68 : decode cX8_shift 68 = .ok (.ifCond .lt 39, 3) := by decide +kernel
theorem dX8_shift_71 : decode cX8_shift 71 = .ok (.iload_n 2, 1) := by decide +kernel
theorem dX8_shift_72 : decode cX8_shift 72 = .ok (.ifCond .lt 35, 3) := by decide +kernel
theorem dX8_shift_75 : decode cX8_shift 75 = .ok (.iload 4, 2) := by decide +kernel
theorem dX8_shift_77 : decode cX8_shift 77 = .ok (.ifCond .lt 30, 3) := by decide +kernel
theorem dX8_shift_80 : decode cX8_shift 80 = .ok (.iload_n 2, 1) := by decide +kernel
theorem dX8_shift_81 : decode cX8_shift 81 = .ok (.aload_n 0, 1) := by decide +kernel
theorem dX8_shift_82 : decode cX8_shift 82 = .ok (.getfield 132, 3) := by decide +kernel
theorem dX8_shift_85 : decode cX8_shift 85 = .ok (.iload_n 1, 1) := by decide +kernel
theorem dX8_shift_86 : decode cX8_shift 86 = .ok (.iaload, 1) := by decide +kernel
theorem dX8_shift_87 : decode cX8_shift 87 = .ok (.iload 5, 2) := by decide +kernel
theorem dX8_shift_89 : decode cX8_shift 89 = .ok (.isub, 1) := by decide +kernel
theorem dX8_shift_90 : decode cX8_shift 90 = .ok (.if_icmp .gt 17, 3) := by decide +kernel
theorem dX8_shift_93 : decode cX8_shift 93 = .ok (.iload 4, 2) := by decide +kernel
theorem dX8_shift_95 : decode cX8_shift 95 = .ok (.aload_n 0, 1) := by decide +kernel
theorem dX8_shift_96 : decode cX8_shift 96 = .ok (.getfield 132, 3) := by decide +kernel
theorem dX8_shift_99 : decode cX8_shift 99 = .ok (.iload_n 3, 1) := by decide +kernel
theorem dX8_shift_100 : decode cX8_shift 100 = .ok (.iaload, 1) := by decide +kernel
theorem dX8_shift_101 : decode cX8_shift 101 = .ok (.iload 5, 2) := by decide +kernel
theorem dX8_shift_103 : decode cX8_shift 103 = .ok (.isub, 1) := by decide +kernel
theorem dX8_shift_104 : decode cX8_shift 104 = .ok (.if_icmp .le 6, 3) := by decide +kernel
theorem dX8_shift_107 : decode cX8_shift 107 = .ok (.bipush (-13), 2) := by decide +kernel
theorem dX8_shift_109 : decode cX8_shift 109 = .ok (.ireturn, 1) := by decide +kernel
theorem dX8_shift_110 : decode cX8_shift 110 = .ok (.iconst 0, 1) := by decide +kernel
theorem dX8_shift_111 : decode cX8_shift 111 = .ok (.istore 6, 2) := by decide +kernel
theorem dX8_shift_113 : decode cX8_shift 113 = .ok (.iload 6, 2) := by decide +kernel
theorem dX8_shift_115 : decode cX8_shift 115 = .ok (.iload 5, 2) := by decide +kernel
theorem dX8_shift_117 : decode cX8_shift 117 = .ok (.if_icmp .ge 30, 3) := by decide +kernel
theorem dX8_shift_120 : decode cX8_shift 120 = .ok (.aload_n 0, 1) := by decide +kernel
theorem dX8_shift_121 : decode cX8_shift 121 = .ok (.getfield 139, 3) := by decide +kernel
theorem dX8_shift_124 : decode cX8_shift 124 = .ok (.iload 6, 2) := by decide +kernel
theorem dX8_shift_126 : decode cX8_shift 126 = .ok (.aload_n 0, 1) := by decide +kernel
theorem dX8_shift_127 : decode cX8_shift 127 = .ok (.getfield 135, 3) := by decide +kernel
theorem dX8_shift_130 : decode cX8_shift 130 = .ok (.bipush 60, 2) := by decide +kernel
theorem dX8_shift_132 : decode cX8_shift 132 = .ok (.iload_n 1, 1) := by decide +kernel
theorem dX8_shift_133 : decode cX8_shift 133 = .ok (.imul, 1) := by decide +kernel
theorem dX8_shift_134 : decode cX8_shift 134 = .ok (.iload_n 2, 1) := by decide +kernel
theorem dX8_shift_135 : decode cX8_shift 135 = .ok (.iadd, 1) := by decide +kernel
theorem dX8_shift_136 : decode cX8_shift 136 = .ok (.iload 6, 2) := by decide +kernel
theorem dX8_shift_138 : decode cX8_shift 138 = .ok (.iadd, 1) := by decide +kernel
theorem dX8_shift_139 : decode cX8_shift 139 = .ok (.laload, 1) := by decide +kernel
theorem dX8_shift_140 : decode cX8_shift 140 = .ok (.lastore, 1) := by decide +kernel
theorem dX8_shift_141 : decode cX8_shift 141 = .ok (.iinc 6 1, 3) := by decide +kernel
theorem dX8_shift_144 : decode cX8_shift 144 = .ok (.goto (-31), 3) := by decide +kernel
theorem dX8_shift_147 : decode cX8_shift 147 = .ok (.iconst 0, 1) := by decide +kernel
theorem dX8_shift_148 : decode cX8_shift 148 = .ok (.istore 6, 2) := by decide +kernel
theorem dX8_shift_150 : decode cX8_shift 150 = .ok (.iload 6, 2) := by decide +kernel
theorem dX8_shift_152 : decode cX8_shift 152 = .ok (.iload 5, 2) := by decide +kernel
theorem dX8_shift_154 : decode cX8_shift 154 = .ok (.if_icmp .ge 31, 3) := by decide +kernel
theorem dX8_shift_157 : decode cX8_shift 157 = .ok (.aload_n 0, 1) := by decide +kernel
theorem dX8_shift_158 : decode cX8_shift 158 = .ok (.getfield 135, 3) := by decide +kernel
theorem dX8_shift_161 : decode cX8_shift 161 = .ok (.bipush 60, 2) := by decide +kernel
theorem dX8_shift_163 : decode cX8_shift 163 = .ok (.iload_n 3, 1) := by decide +kernel
theorem dX8_shift_164 : decode cX8_shift 164 = .ok (.imul, 1) := by decide +kernel
theorem dX8_shift_165 : decode cX8_shift 165 = .ok (.iload 4, 2) := by decide +kernel
theorem dX8_shift_167 : decode cX8_shift 167 = .ok (.iadd, 1) := by decide +kernel
theorem dX8_shift_168 : decode cX8_shift 168 = .ok (.iload 6, 2) := by decide +kernel
theorem dX8_shift_170 : decode cX8_shift 170 = .ok (.iadd, 1) := by decide +kernel
theorem dX8_shift_171 : decode cX8_shift 171 = .ok (.aload_n 0, 1) := by decide +kernel
theorem dX8_shift_172 : decode cX8_shift 172 = .ok (.getfield 139, 3) := by decide +kernel
theorem dX8_shift_175 : decode cX8_shift 175 = .ok (.iload 6, 2) := by decide +kernel
theorem dX8_shift_177 : decode cX8_shift 177 = .ok (.laload, 1) := by decide +kernel
theorem dX8_shift_178 : decode cX8_shift 178 = .ok (.lastore, 1) := by decide +kernel
theorem dX8_shift_179 : decode cX8_shift 179 = .ok (.iinc 6 1, 3) := by decide +kernel
theorem dX8_shift_182 : decode cX8_shift 182 = .ok (.goto (-32), 3) := by decide +kernel
theorem dX8_shift_185 : decode cX8_shift 185 = .ok (.iload 5, 2) := by decide +kernel
theorem dX8_shift_187 : decode cX8_shift 187 = .ok (.ireturn, 1) := by decide +kernel
theorem dX8_taken_0 : decode cX8_taken 0 = .ok (.iload_n 1, 1) := by decide +kernel
theorem dX8_taken_1 : decode cX8_taken 1 = .ok (.invokestatic 163, 3) := by decide +kernel
theorem dX8_taken_4 : decode cX8_taken 4 = .ok (.ifCond .eq 13, 3) := by decide +kernel
theorem dX8_taken_7 : decode cX8_taken 7 = .ok (.iload_n 2, 1) := by decide +kernel
theorem dX8_taken_8 : decode cX8_taken 8 = .ok (.iconst 0, 1) := by decide +kernel
theorem dX8_taken_9 : decode cX8_taken 9 = .ok (.bipush 7, 2) := by decide +kernel
theorem dX8_taken_11 : decode cX8_taken 11 = .ok (.invokestatic 148, 3) := by decide +kernel
theorem dX8_taken_14 : decode cX8_taken 14 = .ok (.ifCond .ne 5, 3) := by decide +kernel
theorem dX8_taken_17 : decode cX8_taken 17 = .ok (.iconst (-1), 1) := by decide +kernel
theorem dX8_taken_18 : decode cX8_taken 18 = .ok (.ireturn, 1) := by decide +kernel
theorem dX8_taken_19 : decode cX8_taken 19 = .ok (.aload_n 0, 1) := by decide +kernel
theorem dX8_taken_20 : decode cX8_taken 20 = .ok (.getfield 129, 3) := by decide +kernel
theorem dX8_taken_23 : decode cX8_taken 23 = .ok (.iload_n 1, 1) := by decide +kernel
theorem dX8_taken_24 : decode cX8_taken 24 = .ok (.iaload, 1) := by decide +kernel
theorem dX8_taken_25 : decode cX8_taken 25 = .ok (.iconst (-1), 1) := by decide +kernel
theorem dX8_taken_26 : decode cX8_taken 26 = .ok (.if_icmp .ne 6, 3) := by decide +kernel
theorem dX8_taken_29 : decode cX8_taken 29 = .ok (.bipush (-11), 2) := by decide +kernel
theorem dX8_taken_31 : decode cX8_taken 31 = .ok (.ireturn, 1) := by decide +kernel
theorem dX8_taken_32 : decode cX8_taken 32 = .ok (.aload_n 0, 1) := by decide +kernel
theorem dX8_taken_33 : decode cX8_taken 33 = .ok (.getfield 129, 3) := by decide +kernel
theorem dX8_taken_36 : decode cX8_taken 36 = .ok (.iload_n 1, 1) := by decide +kernel
theorem dX8_taken_37 : decode cX8_taken 37 = .ok (.iaload, 1) := by decide +kernel
theorem dX8_taken_38 : decode cX8_taken 38 = .ok (.ifCond .lt 35, 3) := by decide +kernel
theorem dX8_taken_41 : decode cX8_taken 41 = .ok (.aload_n 0, 1) := by decide +kernel
theorem dX8_taken_42 : decode cX8_taken 42 = .ok (.getfield 123, 3) := by decide +kernel
theorem dX8_taken_45 : decode cX8_taken 45 = .ok (.aload_n 0, 1) := by decide +kernel
theorem dX8_taken_46 : decode cX8_taken 46 = .ok (.getfield 129, 3) := by decide +kernel
theorem dX8_taken_49 : decode cX8_taken 49 = .ok (.iload_n 1, 1) := by decide +kernel
theorem dX8_taken_50 : decode cX8_taken 50 = .ok (.iaload, 1) := by decide +kernel
theorem dX8_taken_51 : decode cX8_taken 51 = .ok (.iaload, 1) := by decide +kernel
theorem dX8_taken_52 : decode cX8_taken 52 = .ok (.iload_n 2, 1) := by decide +kernel
theorem dX8_taken_53 : decode cX8_taken 53 = .ok (.invokestatic 373, 3) := by decide +kernel
theorem dX8_taken_56 : decode cX8_taken 56 = .ok (.ifCond .eq 17, 3) := by decide +kernel
theorem dX8_taken_59 : decode cX8_taken 59 = .ok (.aload_n 0, 1) := by decide +kernel
theorem dX8_taken_60 : decode cX8_taken 60 = .ok (.getfield 123, 3) := by decide +kernel
theorem dX8_taken_63 : decode cX8_taken 63 = .ok (.aload_n 0, 1) := by decide +kernel
theorem dX8_taken_64 : decode cX8_taken 64 = .ok (.getfield 129, 3) := by decide +kernel
theorem dX8_taken_67 : decode cX8_taken 67 = .ok (.iload_n 1, 1) := by decide +kernel
theorem dX8_taken_68 : decode cX8_taken 68 = .ok (.iaload, 1) := by decide +kernel
theorem dX8_taken_69 : decode cX8_taken 69 = .ok (.iaload, 1) := by decide +kernel
theorem dX8_taken_70 : decode cX8_taken 70 = .ok (.goto 5, 3) := by decide +kernel
theorem dX8_taken_73 : decode cX8_taken 73 = .ok (.bipush (-12), 2) := by decide +kernel
theorem dX8_taken_75 : decode cX8_taken 75 = .ok (.ireturn, 1) := by decide +kernel
