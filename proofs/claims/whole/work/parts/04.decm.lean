/-! ===== decode rows of the reference (PencilUpModel) ===== -/
theorem dX12_init_0 : decode cX12_init 0 = .ok (.aload_n 0, 1) := by decide +kernel
theorem dX12_init_1 : decode cX12_init 1 = .ok (.invokespecial 1, 3) := by decide +kernel
theorem dX12_init_4 : decode cX12_init 4 = .ok (.aload_n 0, 1) := by decide +kernel
theorem dX12_init_5 : decode cX12_init 5 = .ok (.sipush 856, 3) := by decide +kernel
theorem dX12_init_8 : decode cX12_init 8 = .ok (.newarray .int, 2) := by decide +kernel
theorem dX12_init_10 : decode cX12_init 10 = .ok (.putfield 7, 3) := by decide +kernel
theorem dX12_init_13 : decode cX12_init 13 = .ok (.aload_n 0, 1) := by decide +kernel
theorem dX12_init_14 : decode cX12_init 14 = .ok (.sipush 856, 3) := by decide +kernel
theorem dX12_init_17 : decode cX12_init 17 = .ok (.newarray .int, 2) := by decide +kernel
theorem dX12_init_19 : decode cX12_init 19 = .ok (.putfield 13, 3) := by decide +kernel
theorem dX12_init_22 : decode cX12_init 22 = .ok (.aload_n 0, 1) := by decide +kernel
theorem dX12_init_23 : decode cX12_init 23 = .ok (.sipush 456, 3) := by decide +kernel
theorem dX12_init_26 : decode cX12_init 26 = .ok (.newarray .int, 2) := by decide +kernel
theorem dX12_init_28 : decode cX12_init 28 = .ok (.putfield 16, 3) := by decide +kernel
theorem dX12_init_31 : decode cX12_init 31 = .ok (.aload_n 0, 1) := by decide +kernel
theorem dX12_init_32 : decode cX12_init 32 = .ok (.sipush 5472, 3) := by decide +kernel
theorem dX12_init_35 : decode cX12_init 35 = .ok (.newarray .int, 2) := by decide +kernel
theorem dX12_init_37 : decode cX12_init 37 = .ok (.putfield 19, 3) := by decide +kernel
theorem dX12_init_40 : decode cX12_init 40 = .ok (.aload_n 0, 1) := by decide +kernel
theorem dX12_init_41 : decode cX12_init 41 = .ok (.sipush 400, 3) := by decide +kernel
theorem dX12_init_44 : decode cX12_init 44 = .ok (.newarray .int, 2) := by decide +kernel
theorem dX12_init_46 : decode cX12_init 46 = .ok (.putfield 22, 3) := by decide +kernel
theorem dX12_init_49 : decode cX12_init 49 = .ok (.aload_n 0, 1) := by decide +kernel
theorem dX12_init_50 : decode cX12_init 50 = .ok (.iconst (-1), 1) := by decide +kernel
theorem dX12_init_51 : decode cX12_init 51 = .ok (.putfield 25, 3) := by decide +kernel
theorem dX12_init_54 : decode cX12_init 54 = .ok (.aload_n 0, 1) := by decide +kernel
theorem dX12_init_55 : decode cX12_init 55 = .ok (.bipush 7, 2) := by decide +kernel
theorem dX12_init_57 : decode cX12_init 57 = .ok (.newarray .int, 2) := by decide +kernel
theorem dX12_init_59 : decode cX12_init 59 = .ok (.putfield 29, 3) := by decide +kernel
theorem dX12_init_62 : decode cX12_init 62 = .ok (.aload_n 0, 1) := by decide +kernel
theorem dX12_init_63 : decode cX12_init 63 = .ok (.bipush 8, 2) := by decide +kernel
theorem dX12_init_65 : decode cX12_init 65 = .ok (.newarray .int, 2) := by decide +kernel
theorem dX12_init_67 : decode cX12_init 67 = .ok (.putfield 32, 3) := by decide +kernel
theorem dX12_init_70 : decode cX12_init 70 = .ok (.aload_n 0, 1) := by decide +kernel
theorem dX12_init_71 : decode cX12_init 71 = .ok (.bipush 49, 2) := by decide +kernel
theorem dX12_init_73 : decode cX12_init 73 = .ok (.newarray .int, 2) := by decide +kernel
theorem dX12_init_75 : decode cX12_init 75 = .ok (.putfield 35, 3) := by decide +kernel
theorem dX12_init_78 : decode cX12_init 78 = .ok (.aload_n 0, 1) := by decide +kernel
theorem dX12_init_79 : decode cX12_init 79 = .ok (.sipush 1161, 3) := by decide +kernel
theorem dX12_init_82 : decode cX12_init 82 = .ok (.newarray .int, 2) := by decide +kernel
theorem dX12_init_84 : decode cX12_init 84 = .ok (.putfield 38, 3) := by decide +kernel
theorem dX12_init_87 : decode cX12_init 87 = .ok (.aload_n 0, 1) := by decide +kernel
theorem dX12_init_88 : decode cX12_init 88 = .ok (.bipush 32, 2) := by decide +kernel
theorem dX12_init_90 : decode cX12_init 90 = .ok (.newarray .int, 2) := by decide +kernel
theorem dX12_init_92 : decode cX12_init 92 = .ok (.putfield 41, 3) := by decide +kernel
theorem dX12_init_95 : decode cX12_init 95 = .ok (.aload_n 0, 1) := by decide +kernel
theorem dX12_init_96 : decode cX12_init 96 = .ok (.iconst 5, 1) := by decide +kernel
theorem dX12_init_97 : decode cX12_init 97 = .ok (.newarray .int, 2) := by decide +kernel
theorem dX12_init_99 : decode cX12_init 99 = .ok (.putfield 44, 3) := by decide +kernel
theorem dX12_init_102 : decode cX12_init 102 = .ok (.aload_n 0, 1) := by decide +kernel
theorem dX12_init_103 : decode cX12_init 103 = .ok (.bipush 8, 2) := by decide +kernel
theorem dX12_init_105 : decode cX12_init 105 = .ok (.newarray .int, 2) := by decide +kernel
theorem dX12_init_107 : decode cX12_init 107 = .ok (.putfield 47, 3) := by decide +kernel
theorem dX12_init_110 : decode cX12_init 110 = .ok (.aload_n 0, 1) := by decide +kernel
theorem dX12_init_111 : decode cX12_init 111 = .ok (.bipush 9, 2) := by decide +kernel
theorem dX12_init_113 : decode cX12_init 113 = .ok (.newarray .int, 2) := by decide +kernel
theorem dX12_init_115 : decode cX12_init 115 = .ok (.putfield 50, 3) := by decide +kernel
theorem dX12_init_118 : decode cX12_init 118 = .ok (.aload_n 0, 1) := by decide +kernel
theorem dX12_init_119 : decode cX12_init 119 = .ok (.sipush 256, 3) := by decide +kernel
theorem dX12_init_122 : decode cX12_init 122 = .ok (.newarray .boolean, 2) := by decide +kernel
theorem dX12_init_124 : decode cX12_init 124 = .ok (.putfield 53, 3) := by decide +kernel
theorem dX12_init_127 : decode cX12_init 127 = .ok (.aload_n 0, 1) := by decide +kernel
theorem dX12_init_128 : decode cX12_init 128 = .ok (.getfield 7, 3) := by decide +kernel
theorem dX12_init_131 : decode cX12_init 131 = .ok (.iconst 1, 1) := by decide +kernel
theorem dX12_init_132 : decode cX12_init 132 = .ok (.iconst (-1), 1) := by decide +kernel
theorem dX12_init_133 : decode cX12_init 133 = .ok (.iastore, 1) := by decide +kernel
theorem dX12_init_134 : decode cX12_init 134 = .ok (.aload_n 0, 1) := by decide +kernel
theorem dX12_init_135 : decode cX12_init 135 = .ok (.getfield 7, 3) := by decide +kernel
theorem dX12_init_138 : decode cX12_init 138 = .ok (.bipush 7, 2) := by decide +kernel
theorem dX12_init_140 : decode cX12_init 140 = .ok (.iconst 3, 1) := by decide +kernel
theorem dX12_init_141 : decode cX12_init 141 = .ok (.iastore, 1) := by decide +kernel
theorem dX12_init_142 : decode cX12_init 142 = .ok (.aload_n 0, 1) := by decide +kernel
theorem dX12_init_143 : decode cX12_init 143 = .ok (.getfield 7, 3) := by decide +kernel
theorem dX12_init_146 : decode cX12_init 146 = .ok (.bipush 11, 2) := by decide +kernel
theorem dX12_init_148 : decode cX12_init 148 = .ok (.iconst 1, 1) := by decide +kernel
theorem dX12_init_149 : decode cX12_init 149 = .ok (.iastore, 1) := by decide +kernel
theorem dX12_init_150 : decode cX12_init 150 = .ok (.return_, 1) := by decide +kernel
theorem dX12_thrown_0 : decode cX12_thrown 0 = .ok (.aload_n 0, 1) := by decide +kernel
theorem dX12_thrown_1 : decode cX12_thrown 1 = .ok (.getfield 57, 3) := by decide +kernel
theorem dX12_thrown_4 : decode cX12_thrown 4 = .ok (.ireturn, 1) := by decide +kernel
theorem dX12_isIn_0 : decode cX12_isIn 0 = .ok (.iload_n 0, 1) := by decide +kernel
theorem dX12_isIn_1 : decode cX12_isIn 1 = .ok (.iload_n 1, 1) := by decide +kernel
theorem dX12_isIn_2 : decode cX12_isIn 2 = .ok (.if_icmp .lt 12, 3) := by decide +kernel
theorem dX12_isIn_5 : decode cX12_isIn 5 = .ok (.iload_n 0, 1) := by decide +kernel
theorem dX12_isIn_6 : decode cX12_isIn 6 = .ok (.iload_n 2, 1) := by decide +kernel
theorem dX12_isIn_7 : decode cX12_isIn 7 = .ok (.if_icmp .gt 7, 3) := by decide +kernel
theorem dX12_isIn_10 : decode cX12_isIn 10 = .ok (.iconst 1, 1) := by decide +kernel
theorem dX12_isIn_11 : decode cX12_isIn 11 = .ok (.goto 4, 3) := by decide +kernel
theorem dX12_isIn_14 : decode cX12_isIn 14 = .ok (.iconst 0, 1) := by decide +kernel
theorem dX12_isIn_15 : decode cX12_isIn 15 = .ok (.ireturn, 1) := by decide +kernel
theorem dX12_lesser_0 : decode cX12_lesser 0 = .ok (.iload_n 0, 1) := by decide +kernel
theorem dX12_lesser_1 : decode cX12_lesser 1 = .ok (.iload_n 1, 1) := by decide +kernel
theorem dX12_lesser_2 : decode cX12_lesser 2 = .ok (.if_icmp .ge 7, 3) := by decide +kernel
theorem dX12_lesser_5 : decode cX12_lesser 5 = .ok (.iload_n 0, 1) := by decide +kernel
theorem dX12_lesser_6 : decode cX12_lesser 6 = .ok (.goto 4, 3) := by decide +kernel
theorem dX12_lesser_9 : decode cX12_lesser 9 = .ok (.iload_n 1, 1) := by decide +kernel
theorem dX12_lesser_10 : decode cX12_lesser 10 = .ok (.ireturn, 1) := by decide +kernel
theorem dX12_greater_0 : decode cX12_greater 0 = .ok (.iload_n 0, 1) := by decide +kernel
theorem dX12_greater_1 : decode cX12_greater 1 = .ok (.iload_n 1, 1) := by decide +kernel
theorem dX12_greater_2 : decode cX12_greater 2 = .ok (.if_icmp .le 7, 3) := by decide +kernel
theorem dX12_greater_5 : decode cX12_greater 5 = .ok (.iload_n 0, 1) := by decide +kernel
theorem dX12_greater_6 : decode cX12_greater 6 = .ok (.goto 4, 3) := by decide +kernel
theorem dX12_greater_9 : decode cX12_greater 9 = .ok (.iload_n 1, 1) := by decide +kernel
theorem dX12_greater_10 : decode cX12_greater 10 = .ok (.ireturn, 1) := by decide +kernel
theorem dX12_isOf_0 : decode cX12_isOf 0 = .ok (.iload_n 0, 1) := by decide +kernel
theorem dX12_isOf_1 : decode cX12_isOf 1 = .ok (.iload_n 1, 1) := by decide +kernel
theorem dX12_isOf_2 : decode cX12_isOf 2 = .ok (.ishr, 1) := by decide +kernel
theorem dX12_isOf_3 : decode cX12_isOf 3 = .ok (.iconst 1, 1) := by decide +kernel
theorem dX12_isOf_4 : decode cX12_isOf 4 = .ok (.iand, 1) := by decide +kernel
theorem dX12_isOf_5 : decode cX12_isOf 5 = .ok (.iconst 1, 1) := by decide +kernel
theorem dX12_isOf_6 : decode cX12_isOf 6 = .ok (.if_icmp .ne 7, 3) := by decide +kernel
theorem dX12_isOf_9 : decode cX12_isOf 9 = .ok (.iconst 1, 1) := by decide +kernel
theorem dX12_isOf_10 : decode cX12_isOf 10 = .ok (.goto 4, 3) := by decide +kernel
theorem dX12_isOf_13 : decode cX12_isOf 13 = .ok (.iconst 0, 1) := by decide +kernel
theorem dX12_isOf_14 : decode cX12_isOf 14 = .ok (.ireturn, 1) := by decide +kernel
theorem dX12_bits_0 : decode cX12_bits 0 = .ok (.iconst 0, 1) := by decide +kernel
theorem dX12_bits_1 : decode cX12_bits 1 = .ok (.istore_n 1, 1) := by decide +kernel
theorem dX12_bits_2 : decode cX12_bits 2 = .ok (.iconst 0, 1) := by decide +kernel
theorem dX12_bits_3 : decode cX12_bits 3 = .ok (.istore_n 2, 1) := by decide +kernel
theorem dX12_bits_4 : decode cX12_bits 4 = .ok (.iload_n 2, 1) := by decide +kernel
theorem dX12_bits_5 : decode cX12_bits 5 = .ok (.bipush 31, 2) := by decide +kernel
theorem dX12_bits_7 : decode cX12_bits 7 = .ok (.if_icmp .ge 17, 3) := by decide +kernel
theorem dX12_bits_10 : decode cX12_bits 10 = .ok (.iload_n 1, 1) := by decide +kernel
theorem dX12_bits_11 : decode cX12_bits 11 = .ok (.iload_n 0, 1) := by decide +kernel
theorem dX12_bits_12 : decode cX12_bits 12 = .ok (.iload_n 2, 1) := by decide +kernel
theorem dX12_bits_13 : decode cX12_bits 13 = .ok (.ishr, 1) := by decide +kernel
theorem dX12_bits_14 : decode cX12_bits 14 = .ok (.iconst 1, 1) := by decide +kernel
theorem dX12_bits_15 : decode cX12_bits 15 = .ok (.iand, 1) := by decide +kernel
theorem dX12_bits_16 : decode cX12_bits 16 = .ok (.iadd, 1) := by decide +kernel
theorem dX12_bits_17 : decode cX12_bits 17 = .ok (.istore_n 1, 1) := by decide +kernel
theorem dX12_bits_18 : decode cX12_bits 18 = .ok (.iinc 2 1, 3) := by decide +kernel
theorem dX12_bits_21 : decode cX12_bits 21 = .ok (.goto (-17), 3) := by decide +kernel
theorem dX12_bits_24 : decode cX12_bits 24 = .ok (.iload_n 1, 1) := by decide +kernel
theorem dX12_bits_25 : decode cX12_bits 25 = .ok (.ireturn, 1) := by decide +kernel
theorem dX12_ofWord_0 : decode cX12_ofWord 0 = .ok (.aload_n 0, 1) := by decide +kernel
theorem dX12_ofWord_1 : decode cX12_ofWord 1 = .ok (.getfield 7, 3) := by decide +kernel
theorem dX12_ofWord_4 : decode cX12_ofWord 4 = .ok (.bipush 12, 2) := by decide +kernel
theorem dX12_ofWord_6 : decode cX12_ofWord 6 = .ok (.bipush 8, 2) := by decide +kernel
theorem dX12_ofWord_8 : decode cX12_ofWord 8 = .ok (.iload_n 1, 1) := by decide +kernel
theorem dX12_ofWord_9 : decode cX12_ofWord 9 = .ok (.imul, 1) := by decide +kernel
theorem dX12_ofWord_10 : decode cX12_ofWord 10 = .ok (.iadd, 1) := by decide +kernel
theorem dX12_ofWord_11 : decode cX12_ofWord 11 = .ok (.iload_n 2, 1) := by decide +kernel
theorem dX12_ofWord_12 : decode cX12_ofWord 12 = .ok (.iadd, 1) := by decide +kernel
theorem dX12_ofWord_13 : decode cX12_ofWord 13 = .ok (.iaload, 1) := by decide +kernel
theorem dX12_ofWord_14 : decode cX12_ofWord 14 = .ok (.ireturn, 1) := by decide +kernel
theorem dX12_of_0 : decode cX12_of 0 = .ok (.aload_n 0, 1) := by decide +kernel
theorem dX12_of_1 : decode cX12_of 1 = .ok (.getfield 7, 3) := by decide +kernel
theorem dX12_of_4 : decode cX12_of 4 = .ok (.bipush 96, 2) := by decide +kernel
theorem dX12_of_6 : decode cX12_of 6 = .ok (.iconst 4, 1) := by decide +kernel
theorem dX12_of_7 : decode cX12_of 7 = .ok (.iload_n 1, 1) := by decide +kernel
theorem dX12_of_8 : decode cX12_of 8 = .ok (.imul, 1) := by decide +kernel
theorem dX12_of_9 : decode cX12_of 9 = .ok (.iadd, 1) := by decide +kernel
theorem dX12_of_10 : decode cX12_of 10 = .ok (.iload_n 2, 1) := by decide +kernel
theorem dX12_of_11 : decode cX12_of 11 = .ok (.iadd, 1) := by decide +kernel
theorem dX12_of_12 : decode cX12_of 12 = .ok (.iaload, 1) := by decide +kernel
theorem dX12_of_13 : decode cX12_of 13 = .ok (.ireturn, 1) := by decide +kernel
theorem dX12_lays_0 : decode cX12_lays 0 = .ok (.aload_n 0, 1) := by decide +kernel
theorem dX12_lays_1 : decode cX12_lays 1 = .ok (.getfield 7, 3) := by decide +kernel
theorem dX12_lays_4 : decode cX12_lays 4 = .ok (.bipush 96, 2) := by decide +kernel
theorem dX12_lays_6 : decode cX12_lays 6 = .ok (.iconst 4, 1) := by decide +kernel
theorem dX12_lays_7 : decode cX12_lays 7 = .ok (.iload_n 1, 1) := by decide +kernel
theorem dX12_lays_8 : decode cX12_lays 8 = .ok (.imul, 1) := by decide +kernel
theorem dX12_lays_9 : decode cX12_lays 9 = .ok (.iadd, 1) := by decide +kernel
theorem dX12_lays_10 : decode cX12_lays 10 = .ok (.iload_n 2, 1) := by decide +kernel
theorem dX12_lays_11 : decode cX12_lays 11 = .ok (.iadd, 1) := by decide +kernel
theorem dX12_lays_12 : decode cX12_lays 12 = .ok (.iload_n 3, 1) := by decide +kernel
theorem dX12_lays_13 : decode cX12_lays 13 = .ok (.iastore, 1) := by decide +kernel
theorem dX12_lays_14 : decode cX12_lays 14 = .ok (.return_, 1) := by decide +kernel
theorem dX12_onPage_0 : decode cX12_onPage 0 = .ok (.aload_n 0, 1) := by decide +kernel
theorem dX12_onPage_1 : decode cX12_onPage 1 = .ok (.getfield 7, 3) := by decide +kernel
theorem dX12_onPage_4 : decode cX12_onPage 4 = .ok (.bipush 116, 2) := by decide +kernel
theorem dX12_onPage_6 : decode cX12_onPage 6 = .ok (.bipush 20, 2) := by decide +kernel
theorem dX12_onPage_8 : decode cX12_onPage 8 = .ok (.iload_n 1, 1) := by decide +kernel
theorem dX12_onPage_9 : decode cX12_onPage 9 = .ok (.imul, 1) := by decide +kernel
theorem dX12_onPage_10 : decode cX12_onPage 10 = .ok (.iadd, 1) := by decide +kernel
theorem dX12_onPage_11 : decode cX12_onPage 11 = .ok (.iload_n 2, 1) := by decide +kernel
theorem dX12_onPage_12 : decode cX12_onPage 12 = .ok (.iadd, 1) := by decide +kernel
theorem dX12_onPage_13 : decode cX12_onPage 13 = .ok (.iaload, 1) := by decide +kernel
theorem dX12_onPage_14 : decode cX12_onPage 14 = .ok (.ireturn, 1) := by decide +kernel
theorem dX12_isWord_0 : decode cX12_isWord 0 = .ok (.iload_n 1, 1) := by decide +kernel
theorem dX12_isWord_1 : decode cX12_isWord 1 = .ok (.iconst 0, 1) := by decide +kernel
theorem dX12_isWord_2 : decode cX12_isWord 2 = .ok (.aload_n 0, 1) := by decide +kernel
theorem dX12_isWord_3 : decode cX12_isWord 3 = .ok (.getfield 7, 3) := by decide +kernel
theorem dX12_isWord_6 : decode cX12_isWord 6 = .ok (.iconst 3, 1) := by decide +kernel
theorem dX12_isWord_7 : decode cX12_isWord 7 = .ok (.iaload, 1) := by decide +kernel
theorem dX12_isWord_8 : decode cX12_isWord 8 = .ok (.iconst 1, 1) := by decide +kernel
theorem dX12_isWord_9 : decode cX12_isWord 9 = .ok (.isub, 1) := by decide +kernel
theorem dX12_isWord_10 : decode cX12_isWord 10 = .ok (.invokestatic 60, 3) := by decide +kernel
theorem dX12_isWord_13 : decode cX12_isWord 13 = .ok (.ireturn, 1) := by decide +kernel
theorem dX12_isWriter_0 : decode cX12_isWriter 0 = .ok (.iload_n 1, 1) := by decide +kernel
theorem dX12_isWriter_1 : decode cX12_isWriter 1 = .ok (.iconst 0, 1) := by decide +kernel
theorem dX12_isWriter_2 : decode cX12_isWriter 2 = .ok (.aload_n 0, 1) := by decide +kernel
theorem dX12_isWriter_3 : decode cX12_isWriter 3 = .ok (.getfield 7, 3) := by decide +kernel
theorem dX12_isWriter_6 : decode cX12_isWriter 6 = .ok (.iconst 4, 1) := by decide +kernel
theorem dX12_isWriter_7 : decode cX12_isWriter 7 = .ok (.iaload, 1) := by decide +kernel
theorem dX12_isWriter_8 : decode cX12_isWriter 8 = .ok (.iconst 1, 1) := by decide +kernel
theorem dX12_isWriter_9 : decode cX12_isWriter 9 = .ok (.isub, 1) := by decide +kernel
theorem dX12_isWriter_10 : decode cX12_isWriter 10 = .ok (.invokestatic 60, 3) := by decide +kernel
theorem dX12_isWriter_13 : decode cX12_isWriter 13 = .ok (.ireturn, 1) := by decide +kernel
theorem dX12_feed_0 : decode cX12_feed 0 = .ok (.aload_n 0, 1) := by decide +kernel
theorem dX12_feed_1 : decode cX12_feed 1 = .ok (.iconst 0, 1) := by decide +kernel
theorem dX12_feed_2 : decode cX12_feed 2 = .ok (.putfield 57, 3) := by decide +kernel
theorem dX12_feed_5 : decode cX12_feed 5 = .ok (.aload_n 0, 1) := by decide +kernel
theorem dX12_feed_6 : decode cX12_feed 6 = .ok (.getfield 64, 3) := by decide +kernel
theorem dX12_feed_9 : decode cX12_feed 9 = .ok (.bipush 20, 2) := by decide +kernel
theorem dX12_feed_11 : decode cX12_feed 11 = .ok (.iadd, 1) := by decide +kernel
theorem dX12_feed_12 : decode cX12_feed 12 = .ok (.sipush 400, 3) := by decide +kernel
theorem dX12_feed_15 : decode cX12_feed 15 = .ok (.if_icmp .le 5, 3) := by decide +kernel
theorem dX12_feed_18 : decode cX12_feed 18 = .ok (.iconst (-1), 1) := by decide +kernel
theorem dX12_feed_19 : decode cX12_feed 19 = .ok (.ireturn, 1) := by decide +kernel
theorem dX12_feed_20 : decode cX12_feed 20 = .ok (.iconst 0, 1) := by decide +kernel
theorem dX12_feed_21 : decode cX12_feed 21 = .ok (.istore 6, 2) := by decide +kernel
theorem dX12_feed_23 : decode cX12_feed 23 = .ok (.iload 6, 2) := by decide +kernel
theorem dX12_feed_25 : decode cX12_feed 25 = .ok (.bipush 20, 2) := by decide +kernel
theorem dX12_feed_27 : decode cX12_feed 27 = .ok (.if_icmp .ge 93, 3) := by decide +kernel
theorem dX12_feed_30 : decode cX12_feed 30 = .ok (.iload 6, 2) := by decide +kernel
theorem dX12_feed_32 : decode cX12_feed 32 = .ok (.iconst 4, 1) := by decide +kernel
theorem dX12_feed_33 : decode cX12_feed 33 = .ok (.if_icmp .ge 7, 3) := by decide +kernel
theorem dX12_feed_36 : decode cX12_feed 36 = .ok (.iload_n 1, 1) := by decide +kernel
theorem dX12_feed_37 : decode cX12_feed 37 = .ok (.goto 39, 3) := by decide +kernel
theorem dX12_feed_40 : decode cX12_feed 40 = .ok (.iload 6, 2) := by decide +kernel
theorem dX12_feed_42 : decode cX12_feed 42 = .ok (.bipush 8, 2) := by decide +kernel
theorem dX12_feed_44 : decode cX12_feed 44 = .ok (.if_icmp .ge 7, 3) := by decide +kernel
theorem dX12_feed_47 : decode cX12_feed 47 = .ok (.iload_n 2, 1) := by decide +kernel
theorem dX12_feed_48 : decode cX12_feed 48 = .ok (.goto 28, 3) := by decide +kernel
theorem dX12_feed_51 : decode cX12_feed 51 = .ok (.iload 6, 2) := by decide +kernel
theorem dX12_feed_53 : decode cX12_feed 53 = .ok (.bipush 12, 2) := by decide +kernel
theorem dX12_feed_55 : decode cX12_feed 55 = .ok (.if_icmp .ge 7, 3) := by decide +kernel
theorem dX12_feed_58 : decode cX12_feed 58 = .ok (.iload_n 3, 1) := by decide +kernel
theorem dX12_feed_59 : decode cX12_feed 59 = .ok (.goto 17, 3) := by decide +kernel
theorem dX12_feed_62 : decode cX12_feed 62 = .ok (.iload 6, 2) := by decide +kernel
theorem dX12_feed_64 : decode cX12_feed 64 = .ok (.bipush 16, 2) := by decide +kernel
theorem dX12_feed_66 : decode cX12_feed 66 = .ok (.if_icmp .ge 8, 3) := by decide +kernel
theorem dX12_feed_69 : decode cX12_feed 69 = .ok (.iload 4, 2) := by decide +kernel
theorem dX12_feed_71 : decode cX12_feed 71 = .ok (.goto 5, 3) := by decide +kernel
theorem dX12_feed_74 : decode cX12_feed 74 = .ok (.iload 5, 2) := by decide +kernel
theorem dX12_feed_76 : decode cX12_feed 76 = .ok (.istore 7, 2) := by decide +kernel
theorem dX12_feed_78 : decode cX12_feed 78 = .ok (.aload_n 0, 1) := by decide +kernel
theorem dX12_feed_79 : decode cX12_feed 79 = .ok (.getfield 22, 3) := by decide +kernel
theorem dX12_feed_82 : decode cX12_feed 82 = .ok (.aload_n 0, 1) := by decide +kernel
theorem dX12_feed_83 : decode cX12_feed 83 = .ok (.getfield 64, 3) := by decide +kernel
theorem dX12_feed_86 : decode cX12_feed 86 = .ok (.iload 7, 2) := by decide +kernel
theorem dX12_feed_88 : decode cX12_feed 88 = .ok (.bipush 24, 2) := by decide +kernel
theorem dX12_feed_90 : decode cX12_feed 90 = .ok (.bipush 8, 2) := by decide +kernel
theorem dX12_feed_92 : decode cX12_feed 92 = .ok (.iload 6, 2) := by decide +kernel
theorem dX12_feed_94 : decode cX12_feed 94 = .ok (.iconst 4, 1) := by decide +kernel
theorem dX12_feed_95 : decode cX12_feed 95 = .ok (.irem, 1) := by decide +kernel
theorem dX12_feed_96 : decode cX12_feed 96 = .ok (.imul, 1) := by decide +kernel
theorem dX12_feed_97 : decode cX12_feed 97 = .ok (.isub, 1) := by decide +kernel
theorem dX12_feed_98 : decode cX12_feed 98 = .ok (.iushr, 1) := by decide +kernel
theorem dX12_feed_99 : decode cX12_feed 99 = .ok (.sipush 255, 3) := by decide +kernel
theorem dX12_feed_102 : decode cX12_feed 102 = .ok (.iand, 1) := by decide +kernel
theorem dX12_feed_103 : decode cX12_feed 103 = .ok (.iastore, 1) := by decide +kernel
theorem dX12_feed_104 : decode cX12_feed 104 = .ok (.aload_n 0, 1) := by decide +kernel
theorem dX12_feed_105 : decode cX12_feed 105 = .ok (.dup, 1) := by decide +kernel
theorem dX12_feed_106 : decode cX12_feed 106 = .ok (.getfield 64, 3) := by decide +kernel
theorem dX12_feed_109 : decode cX12_feed 109 = .ok (.iconst 1, 1) := by decide +kernel
theorem dX12_feed_110 : decode cX12_feed 110 = .ok (.iadd, 1) := by decide +kernel
theorem dX12_feed_111 : decode cX12_feed 111 = .ok (.putfield 64, 3) := by decide +kernel
theorem dX12_feed_114 : decode cX12_feed 114 = .ok (.iinc 6 1, 3) := by decide +kernel
theorem dX12_feed_117 : decode cX12_feed 117 = .ok (.goto (-94), 3) := by decide +kernel
theorem dX12_feed_120 : decode cX12_feed 120 = .ok (.aload_n 0, 1) := by decide +kernel
theorem dX12_feed_121 : decode cX12_feed 121 = .ok (.getfield 64, 3) := by decide +kernel
theorem dX12_feed_124 : decode cX12_feed 124 = .ok (.ireturn, 1) := by decide +kernel
theorem dX12_end_0 : decode cX12_end 0 = .ok (.aload_n 0, 1) := by decide +kernel
theorem dX12_end_1 : decode cX12_end 1 = .ok (.iconst 0, 1) := by decide +kernel
theorem dX12_end_2 : decode cX12_end 2 = .ok (.putfield 57, 3) := by decide +kernel
theorem dX12_end_5 : decode cX12_end 5 = .ok (.iload_n 1, 1) := by decide +kernel
theorem dX12_end_6 : decode cX12_end 6 = .ok (.iconst 0, 1) := by decide +kernel
theorem dX12_end_7 : decode cX12_end 7 = .ok (.aload_n 0, 1) := by decide +kernel
theorem dX12_end_8 : decode cX12_end 8 = .ok (.getfield 64, 3) := by decide +kernel
theorem dX12_end_11 : decode cX12_end 11 = .ok (.invokestatic 60, 3) := by decide +kernel
theorem dX12_end_14 : decode cX12_end 14 = .ok (.ifCond .ne 5, 3) := by decide +kernel
theorem dX12_end_17 : decode cX12_end 17 = .ok (.iconst 0, 1) := by decide +kernel
theorem dX12_end_18 : decode cX12_end 18 = .ok (.ireturn, 1) := by decide +kernel
theorem dX12_end_19 : decode cX12_end 19 = .ok (.aload_n 0, 1) := by decide +kernel
theorem dX12_end_20 : decode cX12_end 20 = .ok (.iload_n 1, 1) := by decide +kernel
theorem dX12_end_21 : decode cX12_end 21 = .ok (.putfield 64, 3) := by decide +kernel
theorem dX12_end_24 : decode cX12_end 24 = .ok (.iconst 1, 1) := by decide +kernel
theorem dX12_end_25 : decode cX12_end 25 = .ok (.ireturn, 1) := by decide +kernel
theorem dX12_byteAt_0 : decode cX12_byteAt 0 = .ok (.aload_n 0, 1) := by decide +kernel
theorem dX12_byteAt_1 : decode cX12_byteAt 1 = .ok (.getfield 67, 3) := by decide +kernel
theorem dX12_byteAt_4 : decode cX12_byteAt 4 = .ok (.iconst (-1), 1) := by decide +kernel
theorem dX12_byteAt_5 : decode cX12_byteAt 5 = .ok (.if_icmp .ne 12, 3) := by decide +kernel
theorem dX12_byteAt_8 : decode cX12_byteAt 8 = .ok (.aload_n 0, 1) := by decide +kernel
theorem dX12_byteAt_9 : decode cX12_byteAt 9 = .ok (.getfield 22, 3) := by decide +kernel
theorem dX12_byteAt_12 : decode cX12_byteAt 12 = .ok (.iload_n 1, 1) := by decide +kernel
theorem dX12_byteAt_13 : decode cX12_byteAt 13 = .ok (.iaload, 1) := by decide +kernel
theorem dX12_byteAt_14 : decode cX12_byteAt 14 = .ok (.goto 14, 3) := by decide +kernel
theorem dX12_byteAt_17 : decode cX12_byteAt 17 = .ok (.aload_n 0, 1) := by decide +kernel
theorem dX12_byteAt_18 : decode cX12_byteAt 18 = .ok (.getfield 7, 3) := by decide +kernel
theorem dX12_byteAt_21 : decode cX12_byteAt 21 = .ok (.aload_n 0, 1) := by decide +kernel
theorem dX12_byteAt_22 : decode cX12_byteAt 22 = .ok (.getfield 67, 3) := by decide +kernel
theorem dX12_byteAt_25 : decode cX12_byteAt 25 = .ok (.iload_n 1, 1) := by decide +kernel
theorem dX12_byteAt_26 : decode cX12_byteAt 26 = .ok (.iadd, 1) := by decide +kernel
theorem dX12_byteAt_27 : decode cX12_byteAt 27 = .ok (.iaload, 1) := by decide +kernel
theorem dX12_byteAt_28 : decode cX12_byteAt 28 = .ok (.ireturn, 1) := by decide +kernel
theorem dX12_skip_0 : decode cX12_skip 0 = .ok (.aload_n 0, 1) := by decide +kernel
theorem dX12_skip_1 : decode cX12_skip 1 = .ok (.getfield 70, 3) := by decide +kernel
theorem dX12_skip_4 : decode cX12_skip 4 = .ok (.aload_n 0, 1) := by decide +kernel
theorem dX12_skip_5 : decode cX12_skip 5 = .ok (.getfield 73, 3) := by decide +kernel
theorem dX12_skip_8 : decode cX12_skip 8 = .ok (.if_icmp .ge 29, 3) := by decide +kernel
theorem dX12_skip_11 : decode cX12_skip 11 = .ok (.aload_n 0, 1) := by decide +kernel
theorem dX12_skip_12 : decode cX12_skip 12 = .ok (.aload_n 0, 1) := by decide +kernel
theorem dX12_skip_13 : decode cX12_skip 13 = .ok (.getfield 70, 3) := by decide +kernel
theorem dX12_skip_16 : decode cX12_skip 16 = .ok (.invokevirtual 76, 3) := by decide +kernel
theorem dX12_skip_19 : decode cX12_skip 19 = .ok (.bipush 32, 2) := by decide +kernel
theorem dX12_skip_21 : decode cX12_skip 21 = .ok (.if_icmp .ne 16, 3) := by decide +kernel
theorem dX12_skip_24 : decode cX12_skip 24 = .ok (.aload_n 0, 1) := by decide +kernel
theorem dX12_skip_25 : decode cX12_skip 25 = .ok (.dup, 1) := by decide +kernel
theorem dX12_skip_26 : decode cX12_skip 26 = .ok (.getfield 70, 3) := by decide +kernel
theorem dX12_skip_29 : decode cX12_skip 29 = .ok (.iconst 1, 1) := by decide +kernel
theorem dX12_skip_30 : decode cX12_skip 30 = .ok (.iadd, 1) := by decide +kernel
theorem dX12_skip_31 : decode cX12_skip 31 = .ok (.putfield 70, 3) := by decide +kernel
theorem dX12_skip_34 : decode cX12_skip 34 = .ok (.goto (-34), 3) := by decide +kernel
theorem dX12_skip_37 : decode cX12_skip 37 = .ok (.return_, 1) := by decide +kernel
theorem dX12_isSign_0 : decode cX12_isSign 0 = .ok (.aload_n 0, 1) := by decide +kernel
theorem dX12_isSign_1 : decode cX12_isSign 1 = .ok (.invokevirtual 80, 3) := by decide +kernel
theorem dX12_isSign_4 : decode cX12_isSign 4 = .ok (.aload_n 0, 1) := by decide +kernel
theorem dX12_isSign_5 : decode cX12_isSign 5 = .ok (.getfield 70, 3) := by decide +kernel
theorem dX12_isSign_8 : decode cX12_isSign 8 = .ok (.aload_n 0, 1) := by decide +kernel
theorem dX12_isSign_9 : decode cX12_isSign 9 = .ok (.getfield 73, 3) := by decide +kernel
theorem dX12_isSign_12 : decode cX12_isSign 12 = .ok (.if_icmp .ge 19, 3) := by decide +kernel
theorem dX12_isSign_15 : decode cX12_isSign 15 = .ok (.aload_n 0, 1) := by decide +kernel
theorem dX12_isSign_16 : decode cX12_isSign 16 = .ok (.aload_n 0, 1) := by decide +kernel
theorem dX12_isSign_17 : decode cX12_isSign 17 = .ok (.getfield 70, 3) := by decide +kernel
theorem dX12_isSign_20 : decode cX12_isSign 20 = .ok (.invokevirtual 76, 3) := by decide +kernel
theorem dX12_isSign_23 : decode cX12_isSign 23 = .ok (.iload_n 1, 1) := by decide +kernel
theorem dX12_isSign_24 : decode cX12_isSign 24 = .ok (.if_icmp .ne 7, 3) := by decide +kernel
theorem dX12_isSign_27 : decode cX12_isSign 27 = .ok (.iconst 1, 1) := by decide +kernel
theorem dX12_isSign_28 : decode cX12_isSign 28 = .ok (.goto 4, 3) := by decide +kernel
theorem dX12_isSign_31 : decode cX12_isSign 31 = .ok (.iconst 0, 1) := by decide +kernel
theorem dX12_isSign_32 : decode cX12_isSign 32 = .ok (.ireturn, 1) := by decide +kernel
theorem dX12_has_0 : decode cX12_has 0 = .ok (.aload_n 0, 1) := by decide +kernel
theorem dX12_has_1 : decode cX12_has 1 = .ok (.invokevirtual 80, 3) := by decide +kernel
theorem dX12_has_4 : decode cX12_has 4 = .ok (.aload_n 0, 1) := by decide +kernel
theorem dX12_has_5 : decode cX12_has 5 = .ok (.getfield 70, 3) := by decide +kernel
theorem dX12_has_8 : decode cX12_has 8 = .ok (.istore_n 2, 1) := by decide +kernel
theorem dX12_has_9 : decode cX12_has 9 = .ok (.iload_n 2, 1) := by decide +kernel
theorem dX12_has_10 : decode cX12_has 10 = .ok (.aload_n 0, 1) := by decide +kernel
theorem dX12_has_11 : decode cX12_has 11 = .ok (.getfield 73, 3) := by decide +kernel
theorem dX12_has_14 : decode cX12_has 14 = .ok (.if_icmp .ge 24, 3) := by decide +kernel
theorem dX12_has_17 : decode cX12_has 17 = .ok (.aload_n 0, 1) := by decide +kernel
theorem dX12_has_18 : decode cX12_has 18 = .ok (.iload_n 2, 1) := by decide +kernel
theorem dX12_has_19 : decode cX12_has 19 = .ok (.invokevirtual 76, 3) := by decide +kernel
theorem dX12_has_22 : decode cX12_has 22 = .ok (.bipush 97, 2) := by decide +kernel
theorem dX12_has_24 : decode cX12_has 24 = .ok (.bipush 122, 2) := by decide +kernel
theorem dX12_has_26 : decode cX12_has 26 = .ok (.invokestatic 60, 3) := by decide +kernel
theorem dX12_has_29 : decode cX12_has 29 = .ok (.ifCond .eq 9, 3) := by decide +kernel
theorem dX12_has_32 : decode cX12_has 32 = .ok (.iinc 2 1, 3) := by decide +kernel
theorem dX12_has_35 : decode cX12_has 35 = .ok (.goto (-26), 3) := by decide +kernel
theorem dX12_has_38 : decode cX12_has 38 = .ok (.iload_n 2, 1) := by decide +kernel
theorem dX12_has_39 : decode cX12_has 39 = .ok (.aload_n 0, 1) := by decide +kernel
theorem dX12_has_40 : decode cX12_has 40 = .ok (.getfield 70, 3) := by decide +kernel
theorem dX12_has_43 : decode cX12_has 43 = .ok (.isub, 1) := by decide +kernel
theorem dX12_has_44 : decode cX12_has 44 = .ok (.aload_n 1, 1) := by decide +kernel
theorem dX12_has_45 : decode cX12_has 45 = .ok (.invokevirtual 83, 3) := by decide +kernel
theorem dX12_has_48 : decode cX12_has 48 = .ok (.if_icmp .eq 5, 3) := by decide +kernel
theorem dX12_has_51 : decode cX12_has 51 = .ok (.iconst 0, 1) := by decide +kernel
theorem dX12_has_52 : decode cX12_has 52 = .ok (.ireturn, 1) := by decide +kernel
theorem dX12_has_53 : decode cX12_has 53 = .ok (.iconst 0, 1) := by decide +kernel
theorem dX12_has_54 : decode cX12_has 54 = .ok (.istore_n 3, 1) := by decide +kernel
theorem dX12_has_55 : decode cX12_has 55 = .ok (.iload_n 3, 1) := by decide +kernel
theorem dX12_has_56 : decode cX12_has 56 = .ok (.aload_n 1, 1) := by decide +kernel
theorem dX12_has_57 : decode cX12_has 57 = .ok (.invokevirtual 83, 3) := by decide +kernel
theorem dX12_has_60 : decode cX12_has 60 = .ok (.if_icmp .ge 29, 3) := by decide +kernel
theorem dX12_has_63 : decode cX12_has 63 = .ok (.aload_n 0, 1) := by decide +kernel
theorem dX12_has_64 : decode cX12_has 64 = .ok (.aload_n 0, 1) := by decide +kernel
theorem dX12_has_65 : decode cX12_has 65 = .ok (.getfield 70, 3) := by decide +kernel
theorem dX12_has_68 : decode cX12_has 68 = .ok (.iload_n 3, 1) := by decide +kernel
theorem dX12_has_69 : decode cX12_has 69 = .ok (.iadd, 1) := by decide +kernel
theorem dX12_has_70 : decode cX12_has 70 = .ok (.invokevirtual 76, 3) := by decide +kernel
theorem dX12_has_73 : decode cX12_has 73 = .ok (.aload_n 1, 1) := by decide +kernel
theorem dX12_has_74 : decode cX12_has 74 = .ok (.iload_n 3, 1) := by decide +kernel
theorem dX12_has_75 : decode cX12_has 75 = .ok (.invokevirtual 89, 3) := by decide +kernel
theorem dX12_has_78 : decode cX12_has 78 = .ok (.if_icmp .eq 5, 3) := by decide +kernel
theorem dX12_has_81 : decode cX12_has 81 = .ok (.iconst 0, 1) := by decide +kernel
theorem dX12_has_82 : decode cX12_has 82 = .ok (.ireturn, 1) := by decide +kernel
theorem dX12_has_83 : decode cX12_has 83 = .ok (.iinc 3 1, 3) := by decide +kernel
theorem dX12_has_86 : decode cX12_has 86 = .ok (.goto (-31), 3) := by decide +kernel
theorem dX12_has_89 : decode cX12_has 89 = .ok (.aload_n 0, 1) := by decide +kernel
theorem dX12_has_90 : decode cX12_has 90 = .ok (.iload_n 2, 1) := by decide +kernel
theorem dX12_has_91 : decode cX12_has 91 = .ok (.putfield 70, 3) := by decide +kernel
theorem dX12_has_94 : decode cX12_has 94 = .ok (.iconst 1, 1) := by decide +kernel
theorem dX12_has_95 : decode cX12_has 95 = .ok (.ireturn, 1) := by decide +kernel
theorem dX12_wrong_0 : decode cX12_wrong 0 = .ok (.aload_n 0, 1) := by decide +kernel
theorem dX12_wrong_1 : decode cX12_wrong 1 = .ok (.getfield 25, 3) := by decide +kernel
theorem dX12_wrong_4 : decode cX12_wrong 4 = .ok (.iconst (-1), 1) := by decide +kernel
theorem dX12_wrong_5 : decode cX12_wrong 5 = .ok (.if_icmp .ne 8, 3) := by decide +kernel
theorem dX12_wrong_8 : decode cX12_wrong 8 = .ok (.aload_n 0, 1) := by decide +kernel
theorem dX12_wrong_9 : decode cX12_wrong 9 = .ok (.iload_n 1, 1) := by decide +kernel
theorem dX12_wrong_10 : decode cX12_wrong 10 = .ok (.putfield 25, 3) := by decide +kernel
theorem dX12_wrong_13 : decode cX12_wrong 13 = .ok (.return_, 1) := by decide +kernel
theorem dX12_here_0 : decode cX12_here 0 = .ok (.aload_n 0, 1) := by decide +kernel
theorem dX12_here_1 : decode cX12_here 1 = .ok (.invokevirtual 80, 3) := by decide +kernel
theorem dX12_here_4 : decode cX12_here 4 = .ok (.aload_n 0, 1) := by decide +kernel
theorem dX12_here_5 : decode cX12_here 5 = .ok (.getfield 70, 3) := by decide +kernel
theorem dX12_here_8 : decode cX12_here 8 = .ok (.ireturn, 1) := by decide +kernel
theorem dX12_figures_0 : decode cX12_figures 0 = .ok (.aload_n 0, 1) := by decide +kernel
theorem dX12_figures_1 : decode cX12_figures 1 = .ok (.getfield 25, 3) := by decide +kernel
theorem dX12_figures_4 : decode cX12_figures 4 = .ok (.iconst (-1), 1) := by decide +kernel
theorem dX12_figures_5 : decode cX12_figures 5 = .ok (.if_icmp .eq 5, 3) := by decide +kernel
theorem dX12_figures_8 : decode cX12_figures 8 = .ok (.iconst 0, 1) := by decide +kernel
theorem dX12_figures_9 : decode cX12_figures 9 = .ok (.ireturn, 1) := by decide +kernel
theorem dX12_figures_10 : decode cX12_figures 10 = .ok (.aload_n 0, 1) := by decide +kernel
theorem dX12_figures_11 : decode cX12_figures 11 = .ok (.invokevirtual 93, 3) := by decide +kernel
theorem dX12_figures_14 : decode cX12_figures 14 = .ok (.istore_n 3, 1) := by decide +kernel
theorem dX12_figures_15 : decode cX12_figures 15 = .ok (.iconst 0, 1) := by decide +kernel
theorem dX12_figures_16 : decode cX12_figures 16 = .ok (.istore 4, 2) := by decide +kernel
theorem dX12_figures_18 : decode cX12_figures 18 = .ok (.aload_n 0, 1) := by decide +kernel
theorem dX12_figures_19 : decode cX12_figures 19 = .ok (.getfield 70, 3) := by decide +kernel
theorem dX12_figures_22 : decode cX12_figures 22 = .ok (.aload_n 0, 1) := by decide +kernel
theorem dX12_figures_23 : decode cX12_figures 23 = .ok (.getfield 73, 3) := by decide +kernel
theorem dX12_figures_26 : decode cX12_figures 26 = .ok (.if_icmp .ge 63, 3) := by decide +kernel
theorem dX12_figures_29 : decode cX12_figures 29 = .ok (.aload_n 0, 1) := by decide +kernel
theorem dX12_figures_30 : decode cX12_figures 30 = .ok (.aload_n 0, 1) := by decide +kernel
theorem dX12_figures_31 : decode cX12_figures 31 = .ok (.getfield 70, 3) := by decide +kernel
theorem dX12_figures_34 : decode cX12_figures 34 = .ok (.invokevirtual 76, 3) := by decide +kernel
theorem dX12_figures_37 : decode cX12_figures 37 = .ok (.bipush 48, 2) := by decide +kernel
theorem dX12_figures_39 : decode cX12_figures 39 = .ok (.bipush 57, 2) := by decide +kernel
theorem dX12_figures_41 : decode cX12_figures 41 = .ok (.invokestatic 60, 3) := by decide +kernel
theorem dX12_figures_44 : decode cX12_figures 44 = .ok (.ifCond .eq 45, 3) := by decide +kernel
theorem dX12_figures_47 : decode cX12_figures 47 = .ok (.aload_n 0, 1) := by decide +kernel
theorem dX12_figures_48 : decode cX12_figures 48 = .ok (.getfield 70, 3) := by decide +kernel
theorem dX12_figures_51 : decode cX12_figures 51 = .ok (.iload_n 3, 1) := by decide +kernel
theorem dX12_figures_52 : decode cX12_figures 52 = .ok (.isub, 1) := by decide +kernel
theorem dX12_figures_53 : decode cX12_figures 53 = .ok (.iconst 3, 1) := by decide +kernel
theorem dX12_figures_54 : decode cX12_figures 54 = .ok (.if_icmp .gt 35, 3) := by decide +kernel
theorem dX12_figures_57 : decode cX12_figures 57 = .ok (.bipush 10, 2) := by decide +kernel
theorem dX12_figures_59 : decode cX12_figures 59 = .ok (.iload 4, 2) := by decide +kernel
theorem dX12_figures_61 : decode cX12_figures 61 = .ok (.imul, 1) := by decide +kernel
theorem dX12_figures_62 : decode cX12_figures 62 = .ok (.aload_n 0, 1) := by decide +kernel
theorem dX12_figures_63 : decode cX12_figures 63 = .ok (.aload_n 0, 1) := by decide +kernel
theorem dX12_figures_64 : decode cX12_figures 64 = .ok (.getfield 70, 3) := by decide +kernel
theorem dX12_figures_67 : decode cX12_figures 67 = .ok (.invokevirtual 76, 3) := by decide +kernel
theorem dX12_figures_70 : decode cX12_figures 70 = .ok (.iadd, 1) := by decide +kernel
theorem dX12_figures_71 : decode cX12_figures 71 = .ok (.bipush 48, 2) := by decide +kernel
theorem dX12_figures_73 : decode cX12_figures 73 = .ok (.isub, 1) := by decide +kernel
theorem dX12_figures_74 : decode cX12_figures 74 = .ok (.istore 4, 2) := by decide +kernel
theorem dX12_figures_76 : decode cX12_figures 76 = .ok (.aload_n 0, 1) := by decide +kernel
theorem dX12_figures_77 : decode cX12_figures 77 = .ok (.dup, 1) := by decide +kernel
theorem dX12_figures_78 : decode cX12_figures 78 = .ok (.getfield 70, 3) := by decide +kernel
theorem dX12_figures_81 : decode cX12_figures 81 = .ok (.iconst 1, 1) := by decide +kernel
theorem dX12_figures_82 : decode cX12_figures 82 = .ok (.iadd, 1) := by decide +kernel
theorem dX12_figures_83 : decode cX12_figures 83 = .ok (.putfield 70, 3) := by decide +kernel
theorem dX12_figures_86 : decode cX12_figures 86 = .ok (.goto (-68), 3) := by decide +kernel
theorem dX12_figures_89 : decode cX12_figures 89 = .ok (.aload_n 0, 1) := by decide +kernel
theorem dX12_figures_90 : decode cX12_figures 90 = .ok (.getfield 70, 3) := by decide +kernel
theorem dX12_figures_93 : decode cX12_figures 93 = .ok (.iload_n 3, 1) := by decide +kernel
theorem dX12_figures_94 : decode cX12_figures 94 = .ok (.if_icmp .eq 25, 3) := by decide +kernel
theorem dX12_figures_97 : decode cX12_figures 97 = .ok (.aload_n 0, 1) := by decide +kernel
theorem dX12_figures_98 : decode cX12_figures 98 = .ok (.getfield 70, 3) := by decide +kernel
theorem dX12_figures_101 : decode cX12_figures 101 = .ok (.iload_n 3, 1) := by decide +kernel
theorem dX12_figures_102 : decode cX12_figures 102 = .ok (.isub, 1) := by decide +kernel
theorem dX12_figures_103 : decode cX12_figures 103 = .ok (.iconst 3, 1) := by decide +kernel
theorem dX12_figures_104 : decode cX12_figures 104 = .ok (.if_icmp .gt 15, 3) := by decide +kernel
theorem dX12_figures_107 : decode cX12_figures 107 = .ok (.iload 4, 2) := by decide +kernel
theorem dX12_figures_109 : decode cX12_figures 109 = .ok (.iload_n 1, 1) := by decide +kernel
theorem dX12_figures_110 : decode cX12_figures 110 = .ok (.if_icmp .lt 9, 3) := by decide +kernel
theorem dX12_figures_113 : decode cX12_figures 113 = .ok (.iload 4, 2) := by decide +kernel
theorem dX12_figures_115 : decode cX12_figures 115 = .ok (.iload_n 2, 1) := by decide +kernel
theorem dX12_figures_116 : decode cX12_figures 116 = .ok (.if_icmp .le 8, 3) := by decide +kernel
theorem dX12_figures_119 : decode cX12_figures 119 = .ok (.aload_n 0, 1) := by decide +kernel
theorem dX12_figures_120 : decode cX12_figures 120 = .ok (.iload_n 3, 1) := by decide +kernel
theorem dX12_figures_121 : decode cX12_figures 121 = .ok (.invokevirtual 96, 3) := by decide +kernel
theorem dX12_figures_124 : decode cX12_figures 124 = .ok (.iload 4, 2) := by decide +kernel
theorem dX12_figures_126 : decode cX12_figures 126 = .ok (.ireturn, 1) := by decide +kernel
theorem dX12_after_0 : decode cX12_after 0 = .ok (.aload_n 0, 1) := by decide +kernel
theorem dX12_after_1 : decode cX12_after 1 = .ok (.getfield 25, 3) := by decide +kernel
theorem dX12_after_4 : decode cX12_after 4 = .ok (.iconst (-1), 1) := by decide +kernel
theorem dX12_after_5 : decode cX12_after 5 = .ok (.if_icmp .ne 19, 3) := by decide +kernel
theorem dX12_after_8 : decode cX12_after 8 = .ok (.aload_n 0, 1) := by decide +kernel
theorem dX12_after_9 : decode cX12_after 9 = .ok (.aload_n 1, 1) := by decide +kernel
theorem dX12_after_10 : decode cX12_after 10 = .ok (.invokevirtual 100, 3) := by decide +kernel
theorem dX12_after_13 : decode cX12_after 13 = .ok (.ifCond .ne 11, 3) := by decide +kernel
theorem dX12_after_16 : decode cX12_after 16 = .ok (.aload_n 0, 1) := by decide +kernel
theorem dX12_after_17 : decode cX12_after 17 = .ok (.aload_n 0, 1) := by decide +kernel
theorem dX12_after_18 : decode cX12_after 18 = .ok (.getfield 70, 3) := by decide +kernel
theorem dX12_after_21 : decode cX12_after 21 = .ok (.invokevirtual 96, 3) := by decide +kernel
theorem dX12_after_24 : decode cX12_after 24 = .ok (.aload_n 0, 1) := by decide +kernel
theorem dX12_after_25 : decode cX12_after 25 = .ok (.iload_n 2, 1) := by decide +kernel
theorem dX12_after_26 : decode cX12_after 26 = .ok (.iload_n 3, 1) := by decide +kernel
theorem dX12_after_27 : decode cX12_after 27 = .ok (.invokevirtual 104, 3) := by decide +kernel
theorem dX12_after_30 : decode cX12_after 30 = .ok (.ireturn, 1) := by decide +kernel
theorem dX12_wordLong_0 : decode cX12_wordLong 0 = .ok (.iconst 0, 1) := by decide +kernel
theorem dX12_wordLong_1 : decode cX12_wordLong 1 = .ok (.istore_n 2, 1) := by decide +kernel
theorem dX12_wordLong_2 : decode cX12_wordLong 2 = .ok (.iload_n 1, 1) := by decide +kernel
theorem dX12_wordLong_3 : decode cX12_wordLong 3 = .ok (.iload_n 2, 1) := by decide +kernel
theorem dX12_wordLong_4 : decode cX12_wordLong 4 = .ok (.iadd, 1) := by decide +kernel
theorem dX12_wordLong_5 : decode cX12_wordLong 5 = .ok (.aload_n 0, 1) := by decide +kernel
theorem dX12_wordLong_6 : decode cX12_wordLong 6 = .ok (.getfield 73, 3) := by decide +kernel
theorem dX12_wordLong_9 : decode cX12_wordLong 9 = .ok (.if_icmp .ge 26, 3) := by decide +kernel
theorem dX12_wordLong_12 : decode cX12_wordLong 12 = .ok (.aload_n 0, 1) := by decide +kernel
theorem dX12_wordLong_13 : decode cX12_wordLong 13 = .ok (.iload_n 1, 1) := by decide +kernel
theorem dX12_wordLong_14 : decode cX12_wordLong 14 = .ok (.iload_n 2, 1) := by decide +kernel
theorem dX12_wordLong_15 : decode cX12_wordLong 15 = .ok (.iadd, 1) := by decide +kernel
theorem dX12_wordLong_16 : decode cX12_wordLong 16 = .ok (.invokevirtual 76, 3) := by decide +kernel
theorem dX12_wordLong_19 : decode cX12_wordLong 19 = .ok (.bipush 97, 2) := by decide +kernel
theorem dX12_wordLong_21 : decode cX12_wordLong 21 = .ok (.bipush 122, 2) := by decide +kernel
theorem dX12_wordLong_23 : decode cX12_wordLong 23 = .ok (.invokestatic 60, 3) := by decide +kernel
theorem dX12_wordLong_26 : decode cX12_wordLong 26 = .ok (.ifCond .eq 9, 3) := by decide +kernel
theorem dX12_wordLong_29 : decode cX12_wordLong 29 = .ok (.iinc 2 1, 3) := by decide +kernel
theorem dX12_wordLong_32 : decode cX12_wordLong 32 = .ok (.goto (-30), 3) := by decide +kernel
theorem dX12_wordLong_35 : decode cX12_wordLong 35 = .ok (.iload_n 2, 1) := by decide +kernel
theorem dX12_wordLong_36 : decode cX12_wordLong 36 = .ok (.ireturn, 1) := by decide +kernel
theorem dX12_areLetters_0 : decode cX12_areLetters 0 = .ok (.iload_n 2, 1) := by decide +kernel
theorem dX12_areLetters_1 : decode cX12_areLetters 1 = .ok (.ifCond .le 7, 3) := by decide +kernel
theorem dX12_areLetters_4 : decode cX12_areLetters 4 = .ok (.iconst 1, 1) := by decide +kernel
theorem dX12_areLetters_5 : decode cX12_areLetters 5 = .ok (.goto 4, 3) := by decide +kernel
theorem dX12_areLetters_8 : decode cX12_areLetters 8 = .ok (.iconst 0, 1) := by decide +kernel
theorem dX12_areLetters_9 : decode cX12_areLetters 9 = .ok (.istore_n 3, 1) := by decide +kernel
theorem dX12_areLetters_10 : decode cX12_areLetters 10 = .ok (.iconst 0, 1) := by decide +kernel
theorem dX12_areLetters_11 : decode cX12_areLetters 11 = .ok (.istore 4, 2) := by decide +kernel
theorem dX12_areLetters_13 : decode cX12_areLetters 13 = .ok (.iload 4, 2) := by decide +kernel
theorem dX12_areLetters_15 : decode cX12_areLetters 15 = .ok (.iload_n 2, 1) := by decide +kernel
theorem dX12_areLetters_16 : decode cX12_areLetters 16 = .ok (.if_icmp .ge 32, 3) := by decide +kernel
theorem dX12_areLetters_19 : decode cX12_areLetters 19 = .ok (.iload_n 3, 1) := by decide +kernel
theorem dX12_areLetters_20 : decode cX12_areLetters 20 = .ok (.ifCond .eq 20, 3) := by decide +kernel
theorem dX12_areLetters_23 : decode cX12_areLetters 23 = .ok (.aload_n 0, 1) := by decide +kernel
theorem dX12_areLetters_24 : decode cX12_areLetters 24 = .ok (.iload_n 1, 1) := by decide +kernel
theorem dX12_areLetters_25 : decode cX12_areLetters 25 = .ok (.iload 4, 2) := by decide +kernel
theorem dX12_areLetters_27 : decode cX12_areLetters 27 = .ok (.iadd, 1) := by decide +kernel
theorem dX12_areLetters_28 : decode cX12_areLetters 28 = .ok (.invokevirtual 76, 3) := by decide +kernel
theorem dX12_areLetters_31 : decode cX12_areLetters 31 = .ok (.bipush 104, 2) := by decide +kernel
theorem dX12_areLetters_33 : decode cX12_areLetters 33 = .ok (.if_icmp .gt 7, 3) := by decide +kernel
theorem dX12_areLetters_36 : decode cX12_areLetters 36 = .ok (.iconst 1, 1) := by decide +kernel
theorem dX12_areLetters_37 : decode cX12_areLetters 37 = .ok (.goto 4, 3) := by decide +kernel
theorem dX12_areLetters_40 : decode cX12_areLetters 40 = .ok (.iconst 0, 1) := by decide +kernel
theorem dX12_areLetters_41 : decode cX12_areLetters 41 = .ok (.istore_n 3, 1) := by decide +kernel
theorem dX12_areLetters_42 : decode cX12_areLetters 42 = .ok (.iinc 4 1, 3) := by decide +kernel
theorem dX12_areLetters_45 : decode cX12_areLetters 45 = .ok (.goto (-32), 3) := by decide +kernel
theorem dX12_areLetters_48 : decode cX12_areLetters 48 = .ok (.iload_n 3, 1) := by decide +kernel
theorem dX12_areLetters_49 : decode cX12_areLetters 49 = .ok (.ireturn, 1) := by decide +kernel
theorem dX12_wordLine_0 : decode cX12_wordLine 0 = .ok (.aload_n 0, 1) := by decide +kernel
theorem dX12_wordLine_1 : decode cX12_wordLine 1 = .ok (.getfield 7, 3) := by decide +kernel
theorem dX12_wordLine_4 : decode cX12_wordLine 4 = .ok (.iconst 3, 1) := by decide +kernel
theorem dX12_wordLine_5 : decode cX12_wordLine 5 = .ok (.iaload, 1) := by decide +kernel
theorem dX12_wordLine_6 : decode cX12_wordLine 6 = .ok (.bipush 8, 2) := by decide +kernel
theorem dX12_wordLine_8 : decode cX12_wordLine 8 = .ok (.if_icmp .ne 8, 3) := by decide +kernel
theorem dX12_wordLine_11 : decode cX12_wordLine 11 = .ok (.aload_n 0, 1) := by decide +kernel
theorem dX12_wordLine_12 : decode cX12_wordLine 12 = .ok (.iload_n 1, 1) := by decide +kernel
theorem dX12_wordLine_13 : decode cX12_wordLine 13 = .ok (.invokevirtual 96, 3) := by decide +kernel
theorem dX12_wordLine_16 : decode cX12_wordLine 16 = .ok (.aload_n 0, 1) := by decide +kernel
theorem dX12_wordLine_17 : decode cX12_wordLine 17 = .ok (.getfield 25, 3) := by decide +kernel
theorem dX12_wordLine_20 : decode cX12_wordLine 20 = .ok (.iconst (-1), 1) := by decide +kernel
theorem dX12_wordLine_21 : decode cX12_wordLine 21 = .ok (.if_icmp .eq 4, 3) := by decide +kernel
theorem dX12_wordLine_24 : decode cX12_wordLine 24 = .ok (.return_, 1) := by decide +kernel
theorem dX12_wordLine_25 : decode cX12_wordLine 25 = .ok (.aload_n 0, 1) := by decide +kernel
theorem dX12_wordLine_26 : decode cX12_wordLine 26 = .ok (.invokevirtual 93, 3) := by decide +kernel
theorem dX12_wordLine_29 : decode cX12_wordLine 29 = .ok (.istore_n 2, 1) := by decide +kernel
theorem dX12_wordLine_30 : decode cX12_wordLine 30 = .ok (.aload_n 0, 1) := by decide +kernel
theorem dX12_wordLine_31 : decode cX12_wordLine 31 = .ok (.iload_n 2, 1) := by decide +kernel
theorem dX12_wordLine_32 : decode cX12_wordLine 32 = .ok (.invokevirtual 108, 3) := by decide +kernel
theorem dX12_wordLine_35 : decode cX12_wordLine 35 = .ok (.istore_n 3, 1) := by decide +kernel
theorem dX12_wordLine_36 : decode cX12_wordLine 36 = .ok (.aload_n 0, 1) := by decide +kernel
theorem dX12_wordLine_37 : decode cX12_wordLine 37 = .ok (.iload_n 2, 1) := by decide +kernel
theorem dX12_wordLine_38 : decode cX12_wordLine 38 = .ok (.iload_n 3, 1) := by decide +kernel
theorem dX12_wordLine_39 : decode cX12_wordLine 39 = .ok (.invokevirtual 111, 3) := by decide +kernel
theorem dX12_wordLine_42 : decode cX12_wordLine 42 = .ok (.ifCond .eq 9, 3) := by decide +kernel
theorem dX12_wordLine_45 : decode cX12_wordLine 45 = .ok (.iload_n 3, 1) := by decide +kernel
theorem dX12_wordLine_46 : decode cX12_wordLine 46 = .ok (.bipush 6, 2) := by decide +kernel
theorem dX12_wordLine_48 : decode cX12_wordLine 48 = .ok (.if_icmp .le 9, 3) := by decide +kernel
theorem dX12_wordLine_51 : decode cX12_wordLine 51 = .ok (.aload_n 0, 1) := by decide +kernel
theorem dX12_wordLine_52 : decode cX12_wordLine 52 = .ok (.iload_n 2, 1) := by decide +kernel
theorem dX12_wordLine_53 : decode cX12_wordLine 53 = .ok (.invokevirtual 96, 3) := by decide +kernel
theorem dX12_wordLine_56 : decode cX12_wordLine 56 = .ok (.return_, 1) := by decide +kernel
theorem dX12_wordLine_57 : decode cX12_wordLine 57 = .ok (.aload_n 0, 1) := by decide +kernel
theorem dX12_wordLine_58 : decode cX12_wordLine 58 = .ok (.iload_n 2, 1) := by decide +kernel
theorem dX12_wordLine_59 : decode cX12_wordLine 59 = .ok (.iload_n 3, 1) := by decide +kernel
theorem dX12_wordLine_60 : decode cX12_wordLine 60 = .ok (.iadd, 1) := by decide +kernel
theorem dX12_wordLine_61 : decode cX12_wordLine 61 = .ok (.putfield 70, 3) := by decide +kernel
theorem dX12_wordLine_64 : decode cX12_wordLine 64 = .ok (.aload_n 0, 1) := by decide +kernel
theorem dX12_wordLine_65 : decode cX12_wordLine 65 = .ok (.ldc 115, 2) := by decide +kernel
theorem dX12_wordLine_67 : decode cX12_wordLine 67 = .ok (.iconst 1, 1) := by decide +kernel
theorem dX12_wordLine_68 : decode cX12_wordLine 68 = .ok (.bipush 99, 2) := by decide +kernel
theorem dX12_wordLine_70 : decode cX12_wordLine 70 = .ok (.invokevirtual 117, 3) := by decide +kernel
theorem dX12_wordLine_73 : decode cX12_wordLine 73 = .ok (.istore 4, 2) := by decide +kernel
theorem dX12_wordLine_75 : decode cX12_wordLine 75 = .ok (.aload_n 0, 1) := by decide +kernel
theorem dX12_wordLine_76 : decode cX12_wordLine 76 = .ok (.getfield 25, 3) := by decide +kernel
theorem dX12_wordLine_79 : decode cX12_wordLine 79 = .ok (.iconst (-1), 1) := by decide +kernel
theorem dX12_wordLine_80 : decode cX12_wordLine 80 = .ok (.if_icmp .eq 4, 3) := by decide +kernel
theorem dX12_wordLine_83 : decode cX12_wordLine 83 = .ok (.return_, 1) := by decide +kernel
theorem dX12_wordLine_84 : decode cX12_wordLine 84 = .ok (.aload_n 0, 1) := by decide +kernel
theorem dX12_wordLine_85 : decode cX12_wordLine 85 = .ok (.getfield 7, 3) := by decide +kernel
theorem dX12_wordLine_88 : decode cX12_wordLine 88 = .ok (.iconst 3, 1) := by decide +kernel
theorem dX12_wordLine_89 : decode cX12_wordLine 89 = .ok (.iaload, 1) := by decide +kernel
theorem dX12_wordLine_90 : decode cX12_wordLine 90 = .ok (.istore 5, 2) := by decide +kernel
theorem dX12_wordLine_92 : decode cX12_wordLine 92 = .ok (.iconst 0, 1) := by decide +kernel
theorem dX12_wordLine_93 : decode cX12_wordLine 93 = .ok (.istore 6, 2) := by decide +kernel
theorem dX12_wordLine_95 : decode cX12_wordLine 95 = .ok (.iload 6, 2) := by decide +kernel
theorem dX12_wordLine_97 : decode cX12_wordLine 97 = .ok (.bipush 6, 2) := by decide +kernel
theorem dX12_wordLine_99 : decode cX12_wordLine 99 = .ok (.if_icmp .ge 46, 3) := by decide +kernel
theorem dX12_wordLine_102 : decode cX12_wordLine 102 = .ok (.aload_n 0, 1) := by decide +kernel
theorem dX12_wordLine_103 : decode cX12_wordLine 103 = .ok (.getfield 7, 3) := by decide +kernel
theorem dX12_wordLine_106 : decode cX12_wordLine 106 = .ok (.bipush 12, 2) := by decide +kernel
theorem dX12_wordLine_108 : decode cX12_wordLine 108 = .ok (.bipush 8, 2) := by decide +kernel
theorem dX12_wordLine_110 : decode cX12_wordLine 110 = .ok (.iload 5, 2) := by decide +kernel
theorem dX12_wordLine_112 : decode cX12_wordLine 112 = .ok (.imul, 1) := by decide +kernel
theorem dX12_wordLine_113 : decode cX12_wordLine 113 = .ok (.iadd, 1) := by decide +kernel
theorem dX12_wordLine_114 : decode cX12_wordLine 114 = .ok (.iload 6, 2) := by decide +kernel
theorem dX12_wordLine_116 : decode cX12_wordLine 116 = .ok (.iadd, 1) := by decide +kernel
theorem dX12_wordLine_117 : decode cX12_wordLine 117 = .ok (.iload 6, 2) := by decide +kernel
theorem dX12_wordLine_119 : decode cX12_wordLine 119 = .ok (.iload_n 3, 1) := by decide +kernel
theorem dX12_wordLine_120 : decode cX12_wordLine 120 = .ok (.if_icmp .ge 17, 3) := by decide +kernel
theorem dX12_wordLine_123 : decode cX12_wordLine 123 = .ok (.aload_n 0, 1) := by decide +kernel
theorem dX12_wordLine_124 : decode cX12_wordLine 124 = .ok (.iload_n 2, 1) := by decide +kernel
theorem dX12_wordLine_125 : decode cX12_wordLine 125 = .ok (.iload 6, 2) := by decide +kernel
theorem dX12_wordLine_127 : decode cX12_wordLine 127 = .ok (.iadd, 1) := by decide +kernel
theorem dX12_wordLine_128 : decode cX12_wordLine 128 = .ok (.invokevirtual 76, 3) := by decide +kernel
theorem dX12_wordLine_131 : decode cX12_wordLine 131 = .ok (.bipush 97, 2) := by decide +kernel
theorem dX12_wordLine_133 : decode cX12_wordLine 133 = .ok (.isub, 1) := by decide +kernel
theorem dX12_wordLine_134 : decode cX12_wordLine 134 = .ok (.goto 4, 3) := by decide +kernel
theorem dX12_wordLine_137 : decode cX12_wordLine 137 = .ok (.iconst (-1), 1) := by decide +kernel
theorem dX12_wordLine_138 : decode cX12_wordLine 138 = .ok (.iastore, 1) := by decide +kernel
theorem dX12_wordLine_139 : decode cX12_wordLine 139 = .ok (.iinc 6 1, 3) := by decide +kernel
theorem dX12_wordLine_142 : decode cX12_wordLine 142 = .ok (.goto (-47), 3) := by decide +kernel
theorem dX12_wordLine_145 : decode cX12_wordLine 145 = .ok (.aload_n 0, 1) := by decide +kernel
theorem dX12_wordLine_146 : decode cX12_wordLine 146 = .ok (.getfield 7, 3) := by decide +kernel
theorem dX12_wordLine_149 : decode cX12_wordLine 149 = .ok (.bipush 12, 2) := by decide +kernel
theorem dX12_wordLine_151 : decode cX12_wordLine 151 = .ok (.bipush 8, 2) := by decide +kernel
theorem dX12_wordLine_153 : decode cX12_wordLine 153 = .ok (.iload 5, 2) := by decide +kernel
theorem dX12_wordLine_155 : decode cX12_wordLine 155 = .ok (.imul, 1) := by decide +kernel
theorem dX12_wordLine_156 : decode cX12_wordLine 156 = .ok (.iadd, 1) := by decide +kernel
theorem dX12_wordLine_157 : decode cX12_wordLine 157 = .ok (.bipush 6, 2) := by decide +kernel
theorem dX12_wordLine_159 : decode cX12_wordLine 159 = .ok (.iadd, 1) := by decide +kernel
theorem dX12_wordLine_160 : decode cX12_wordLine 160 = .ok (.iload_n 3, 1) := by decide +kernel
theorem dX12_wordLine_161 : decode cX12_wordLine 161 = .ok (.iastore, 1) := by decide +kernel
theorem dX12_wordLine_162 : decode cX12_wordLine 162 = .ok (.aload_n 0, 1) := by decide +kernel
theorem dX12_wordLine_163 : decode cX12_wordLine 163 = .ok (.getfield 7, 3) := by decide +kernel
theorem dX12_wordLine_166 : decode cX12_wordLine 166 = .ok (.bipush 12, 2) := by decide +kernel
theorem dX12_wordLine_168 : decode cX12_wordLine 168 = .ok (.bipush 8, 2) := by decide +kernel
theorem dX12_wordLine_170 : decode cX12_wordLine 170 = .ok (.iload 5, 2) := by decide +kernel
theorem dX12_wordLine_172 : decode cX12_wordLine 172 = .ok (.imul, 1) := by decide +kernel
theorem dX12_wordLine_173 : decode cX12_wordLine 173 = .ok (.iadd, 1) := by decide +kernel
theorem dX12_wordLine_174 : decode cX12_wordLine 174 = .ok (.bipush 7, 2) := by decide +kernel
theorem dX12_wordLine_176 : decode cX12_wordLine 176 = .ok (.iadd, 1) := by decide +kernel
theorem dX12_wordLine_177 : decode cX12_wordLine 177 = .ok (.iload 4, 2) := by decide +kernel
theorem dX12_wordLine_179 : decode cX12_wordLine 179 = .ok (.iastore, 1) := by decide +kernel
theorem dX12_wordLine_180 : decode cX12_wordLine 180 = .ok (.aload_n 0, 1) := by decide +kernel
theorem dX12_wordLine_181 : decode cX12_wordLine 181 = .ok (.getfield 7, 3) := by decide +kernel
theorem dX12_wordLine_184 : decode cX12_wordLine 184 = .ok (.iconst 3, 1) := by decide +kernel
theorem dX12_wordLine_185 : decode cX12_wordLine 185 = .ok (.dup2, 1) := by decide +kernel
theorem dX12_wordLine_186 : decode cX12_wordLine 186 = .ok (.iaload, 1) := by decide +kernel
theorem dX12_wordLine_187 : decode cX12_wordLine 187 = .ok (.iconst 1, 1) := by decide +kernel
theorem dX12_wordLine_188 : decode cX12_wordLine 188 = .ok (.iadd, 1) := by decide +kernel
theorem dX12_wordLine_189 : decode cX12_wordLine 189 = .ok (.iastore, 1) := by decide +kernel
theorem dX12_wordLine_190 : decode cX12_wordLine 190 = .ok (.return_, 1) := by decide +kernel
theorem dX12_letterSet_0 : decode cX12_letterSet 0 = .ok (.aload_n 0, 1) := by decide +kernel
theorem dX12_letterSet_1 : decode cX12_letterSet 1 = .ok (.getfield 25, 3) := by decide +kernel
theorem dX12_letterSet_4 : decode cX12_letterSet 4 = .ok (.iconst (-1), 1) := by decide +kernel
theorem dX12_letterSet_5 : decode cX12_letterSet 5 = .ok (.if_icmp .eq 5, 3) := by decide +kernel
theorem dX12_letterSet_8 : decode cX12_letterSet 8 = .ok (.iconst 0, 1) := by decide +kernel
theorem dX12_letterSet_9 : decode cX12_letterSet 9 = .ok (.ireturn, 1) := by decide +kernel
theorem dX12_letterSet_10 : decode cX12_letterSet 10 = .ok (.aload_n 0, 1) := by decide +kernel
theorem dX12_letterSet_11 : decode cX12_letterSet 11 = .ok (.invokevirtual 93, 3) := by decide +kernel
theorem dX12_letterSet_14 : decode cX12_letterSet 14 = .ok (.istore_n 1, 1) := by decide +kernel
theorem dX12_letterSet_15 : decode cX12_letterSet 15 = .ok (.aload_n 0, 1) := by decide +kernel
theorem dX12_letterSet_16 : decode cX12_letterSet 16 = .ok (.iload_n 1, 1) := by decide +kernel
theorem dX12_letterSet_17 : decode cX12_letterSet 17 = .ok (.invokevirtual 108, 3) := by decide +kernel
theorem dX12_letterSet_20 : decode cX12_letterSet 20 = .ok (.istore_n 2, 1) := by decide +kernel
theorem dX12_letterSet_21 : decode cX12_letterSet 21 = .ok (.aload_n 0, 1) := by decide +kernel
theorem dX12_letterSet_22 : decode cX12_letterSet 22 = .ok (.iload_n 1, 1) := by decide +kernel
theorem dX12_letterSet_23 : decode cX12_letterSet 23 = .ok (.iload_n 2, 1) := by decide +kernel
theorem dX12_letterSet_24 : decode cX12_letterSet 24 = .ok (.invokevirtual 111, 3) := by decide +kernel
theorem dX12_letterSet_27 : decode cX12_letterSet 27 = .ok (.istore_n 3, 1) := by decide +kernel
theorem dX12_letterSet_28 : decode cX12_letterSet 28 = .ok (.iconst 0, 1) := by decide +kernel
theorem dX12_letterSet_29 : decode cX12_letterSet 29 = .ok (.istore 4, 2) := by decide +kernel
theorem dX12_letterSet_31 : decode cX12_letterSet 31 = .ok (.iconst 0, 1) := by decide +kernel
theorem dX12_letterSet_32 : decode cX12_letterSet 32 = .ok (.istore 5, 2) := by decide +kernel
theorem dX12_letterSet_34 : decode cX12_letterSet 34 = .ok (.iload 5, 2) := by decide +kernel
theorem dX12_letterSet_36 : decode cX12_letterSet 36 = .ok (.iload_n 2, 1) := by decide +kernel
theorem dX12_letterSet_37 : decode cX12_letterSet 37 = .ok (.if_icmp .ge 49, 3) := by decide +kernel
theorem dX12_letterSet_40 : decode cX12_letterSet 40 = .ok (.iload_n 3, 1) := by decide +kernel
theorem dX12_letterSet_41 : decode cX12_letterSet 41 = .ok (.ifCond .eq 45, 3) := by decide +kernel
theorem dX12_letterSet_44 : decode cX12_letterSet 44 = .ok (.iconst 1, 1) := by decide +kernel
theorem dX12_letterSet_45 : decode cX12_letterSet 45 = .ok (.aload_n 0, 1) := by decide +kernel
theorem dX12_letterSet_46 : decode cX12_letterSet 46 = .ok (.iload_n 1, 1) := by decide +kernel
theorem dX12_letterSet_47 : decode cX12_letterSet 47 = .ok (.iload 5, 2) := by decide +kernel
theorem dX12_letterSet_49 : decode cX12_letterSet 49 = .ok (.iadd, 1) := by decide +kernel
theorem dX12_letterSet_50 : decode cX12_letterSet 50 = .ok (.invokevirtual 76, 3) := by decide +kernel
theorem dX12_letterSet_53 : decode cX12_letterSet 53 = .ok (.bipush 97, 2) := by decide +kernel
theorem dX12_letterSet_55 : decode cX12_letterSet 55 = .ok (.isub, 1) := by decide +kernel
theorem dX12_letterSet_56 : decode cX12_letterSet 56 = .ok (.ishl, 1) := by decide +kernel
theorem dX12_letterSet_57 : decode cX12_letterSet 57 = .ok (.istore 6, 2) := by decide +kernel
theorem dX12_letterSet_59 : decode cX12_letterSet 59 = .ok (.iload 4, 2) := by decide +kernel
theorem dX12_letterSet_61 : decode cX12_letterSet 61 = .ok (.iload 6, 2) := by decide +kernel
theorem dX12_letterSet_63 : decode cX12_letterSet 63 = .ok (.iand, 1) := by decide +kernel
theorem dX12_letterSet_64 : decode cX12_letterSet 64 = .ok (.ifCond .ne 7, 3) := by decide +kernel
theorem dX12_letterSet_67 : decode cX12_letterSet 67 = .ok (.iconst 1, 1) := by decide +kernel
theorem dX12_letterSet_68 : decode cX12_letterSet 68 = .ok (.goto 4, 3) := by decide +kernel
theorem dX12_letterSet_71 : decode cX12_letterSet 71 = .ok (.iconst 0, 1) := by decide +kernel
theorem dX12_letterSet_72 : decode cX12_letterSet 72 = .ok (.istore_n 3, 1) := by decide +kernel
theorem dX12_letterSet_73 : decode cX12_letterSet 73 = .ok (.iload 4, 2) := by decide +kernel
theorem dX12_letterSet_75 : decode cX12_letterSet 75 = .ok (.iload 6, 2) := by decide +kernel
theorem dX12_letterSet_77 : decode cX12_letterSet 77 = .ok (.ior, 1) := by decide +kernel
theorem dX12_letterSet_78 : decode cX12_letterSet 78 = .ok (.istore 4, 2) := by decide +kernel
theorem dX12_letterSet_80 : decode cX12_letterSet 80 = .ok (.iinc 5 1, 3) := by decide +kernel
theorem dX12_letterSet_83 : decode cX12_letterSet 83 = .ok (.goto (-49), 3) := by decide +kernel
theorem dX12_letterSet_86 : decode cX12_letterSet 86 = .ok (.iload_n 3, 1) := by decide +kernel
theorem dX12_letterSet_87 : decode cX12_letterSet 87 = .ok (.ifCond .ne 10, 3) := by decide +kernel
theorem dX12_letterSet_90 : decode cX12_letterSet 90 = .ok (.aload_n 0, 1) := by decide +kernel
theorem dX12_letterSet_91 : decode cX12_letterSet 91 = .ok (.iload_n 1, 1) := by decide +kernel
theorem dX12_letterSet_92 : decode cX12_letterSet 92 = .ok (.invokevirtual 96, 3) := by decide +kernel
theorem dX12_letterSet_95 : decode cX12_letterSet 95 = .ok (.iconst 0, 1) := by decide +kernel
theorem dX12_letterSet_96 : decode cX12_letterSet 96 = .ok (.ireturn, 1) := by decide +kernel
theorem dX12_letterSet_97 : decode cX12_letterSet 97 = .ok (.aload_n 0, 1) := by decide +kernel
theorem dX12_letterSet_98 : decode cX12_letterSet 98 = .ok (.iload_n 1, 1) := by decide +kernel
theorem dX12_letterSet_99 : decode cX12_letterSet 99 = .ok (.iload_n 2, 1) := by decide +kernel
theorem dX12_letterSet_100 : decode cX12_letterSet 100 = .ok (.iadd, 1) := by decide +kernel
theorem dX12_letterSet_101 : decode cX12_letterSet 101 = .ok (.putfield 70, 3) := by decide +kernel
theorem dX12_letterSet_104 : decode cX12_letterSet 104 = .ok (.iload 4, 2) := by decide +kernel
theorem dX12_letterSet_106 : decode cX12_letterSet 106 = .ok (.ireturn, 1) := by decide +kernel
theorem dX12_writerLine_0 : decode cX12_writerLine 0 = .ok (.aload_n 0, 1) := by decide +kernel
theorem dX12_writerLine_1 : decode cX12_writerLine 1 = .ok (.getfield 7, 3) := by decide +kernel
theorem dX12_writerLine_4 : decode cX12_writerLine 4 = .ok (.iconst 4, 1) := by decide +kernel
theorem dX12_writerLine_5 : decode cX12_writerLine 5 = .ok (.iaload, 1) := by decide +kernel
theorem dX12_writerLine_6 : decode cX12_writerLine 6 = .ok (.iconst 5, 1) := by decide +kernel
theorem dX12_writerLine_7 : decode cX12_writerLine 7 = .ok (.if_icmp .ne 8, 3) := by decide +kernel
theorem dX12_writerLine_10 : decode cX12_writerLine 10 = .ok (.aload_n 0, 1) := by decide +kernel
theorem dX12_writerLine_11 : decode cX12_writerLine 11 = .ok (.iload_n 1, 1) := by decide +kernel
theorem dX12_writerLine_12 : decode cX12_writerLine 12 = .ok (.invokevirtual 96, 3) := by decide +kernel
theorem dX12_writerLine_15 : decode cX12_writerLine 15 = .ok (.aload_n 0, 1) := by decide +kernel
theorem dX12_writerLine_16 : decode cX12_writerLine 16 = .ok (.ldc 121, 2) := by decide +kernel
theorem dX12_writerLine_18 : decode cX12_writerLine 18 = .ok (.iconst 1, 1) := by decide +kernel
theorem dX12_writerLine_19 : decode cX12_writerLine 19 = .ok (.bipush 9, 2) := by decide +kernel
theorem dX12_writerLine_21 : decode cX12_writerLine 21 = .ok (.invokevirtual 117, 3) := by decide +kernel
theorem dX12_writerLine_24 : decode cX12_writerLine 24 = .ok (.istore_n 2, 1) := by decide +kernel
theorem dX12_writerLine_25 : decode cX12_writerLine 25 = .ok (.aload_n 0, 1) := by decide +kernel
theorem dX12_writerLine_26 : decode cX12_writerLine 26 = .ok (.getfield 25, 3) := by decide +kernel
theorem dX12_writerLine_29 : decode cX12_writerLine 29 = .ok (.iconst (-1), 1) := by decide +kernel
theorem dX12_writerLine_30 : decode cX12_writerLine 30 = .ok (.if_icmp .ne 22, 3) := by decide +kernel
theorem dX12_writerLine_33 : decode cX12_writerLine 33 = .ok (.aload_n 0, 1) := by decide +kernel
theorem dX12_writerLine_34 : decode cX12_writerLine 34 = .ok (.ldc 123, 2) := by decide +kernel
theorem dX12_writerLine_36 : decode cX12_writerLine 36 = .ok (.invokevirtual 100, 3) := by decide +kernel
theorem dX12_writerLine_39 : decode cX12_writerLine 39 = .ok (.ifCond .eq 13, 3) := by decide +kernel
theorem dX12_writerLine_42 : decode cX12_writerLine 42 = .ok (.aload_n 0, 1) := by decide +kernel
theorem dX12_writerLine_43 : decode cX12_writerLine 43 = .ok (.iconst 0, 1) := by decide +kernel
theorem dX12_writerLine_44 : decode cX12_writerLine 44 = .ok (.bipush 9, 2) := by decide +kernel
theorem dX12_writerLine_46 : decode cX12_writerLine 46 = .ok (.invokevirtual 104, 3) := by decide +kernel
theorem dX12_writerLine_49 : decode cX12_writerLine 49 = .ok (.goto 4, 3) := by decide +kernel
theorem dX12_writerLine_52 : decode cX12_writerLine 52 = .ok (.iconst 0, 1) := by decide +kernel
theorem dX12_writerLine_53 : decode cX12_writerLine 53 = .ok (.istore_n 3, 1) := by decide +kernel
theorem dX12_writerLine_54 : decode cX12_writerLine 54 = .ok (.aload_n 0, 1) := by decide +kernel
theorem dX12_writerLine_55 : decode cX12_writerLine 55 = .ok (.getfield 25, 3) := by decide +kernel
theorem dX12_writerLine_58 : decode cX12_writerLine 58 = .ok (.iconst (-1), 1) := by decide +kernel
theorem dX12_writerLine_59 : decode cX12_writerLine 59 = .ok (.if_icmp .ne 22, 3) := by decide +kernel
theorem dX12_writerLine_62 : decode cX12_writerLine 62 = .ok (.aload_n 0, 1) := by decide +kernel
theorem dX12_writerLine_63 : decode cX12_writerLine 63 = .ok (.ldc 125, 2) := by decide +kernel
theorem dX12_writerLine_65 : decode cX12_writerLine 65 = .ok (.invokevirtual 100, 3) := by decide +kernel
theorem dX12_writerLine_68 : decode cX12_writerLine 68 = .ok (.ifCond .eq 13, 3) := by decide +kernel
theorem dX12_writerLine_71 : decode cX12_writerLine 71 = .ok (.aload_n 0, 1) := by decide +kernel
theorem dX12_writerLine_72 : decode cX12_writerLine 72 = .ok (.iconst 0, 1) := by decide +kernel
theorem dX12_writerLine_73 : decode cX12_writerLine 73 = .ok (.bipush 99, 2) := by decide +kernel
theorem dX12_writerLine_75 : decode cX12_writerLine 75 = .ok (.invokevirtual 104, 3) := by decide +kernel
theorem dX12_writerLine_78 : decode cX12_writerLine 78 = .ok (.goto 4, 3) := by decide +kernel
theorem dX12_writerLine_81 : decode cX12_writerLine 81 = .ok (.iconst 0, 1) := by decide +kernel
theorem dX12_writerLine_82 : decode cX12_writerLine 82 = .ok (.istore 4, 2) := by decide +kernel
theorem dX12_writerLine_84 : decode cX12_writerLine 84 = .ok (.aload_n 0, 1) := by decide +kernel
theorem dX12_writerLine_85 : decode cX12_writerLine 85 = .ok (.getfield 25, 3) := by decide +kernel
theorem dX12_writerLine_88 : decode cX12_writerLine 88 = .ok (.iconst (-1), 1) := by decide +kernel
theorem dX12_writerLine_89 : decode cX12_writerLine 89 = .ok (.if_icmp .ne 19, 3) := by decide +kernel
theorem dX12_writerLine_92 : decode cX12_writerLine 92 = .ok (.aload_n 0, 1) := by decide +kernel
theorem dX12_writerLine_93 : decode cX12_writerLine 93 = .ok (.ldc 127, 2) := by decide +kernel
theorem dX12_writerLine_95 : decode cX12_writerLine 95 = .ok (.invokevirtual 100, 3) := by decide +kernel
theorem dX12_writerLine_98 : decode cX12_writerLine 98 = .ok (.ifCond .eq 10, 3) := by decide +kernel
theorem dX12_writerLine_101 : decode cX12_writerLine 101 = .ok (.aload_n 0, 1) := by decide +kernel
theorem dX12_writerLine_102 : decode cX12_writerLine 102 = .ok (.invokevirtual 129, 3) := by decide +kernel
theorem dX12_writerLine_105 : decode cX12_writerLine 105 = .ok (.goto 4, 3) := by decide +kernel
theorem dX12_writerLine_108 : decode cX12_writerLine 108 = .ok (.iconst 0, 1) := by decide +kernel
theorem dX12_writerLine_109 : decode cX12_writerLine 109 = .ok (.istore 5, 2) := by decide +kernel
theorem dX12_writerLine_111 : decode cX12_writerLine 111 = .ok (.aload_n 0, 1) := by decide +kernel
theorem dX12_writerLine_112 : decode cX12_writerLine 112 = .ok (.getfield 25, 3) := by decide +kernel
theorem dX12_writerLine_115 : decode cX12_writerLine 115 = .ok (.iconst (-1), 1) := by decide +kernel
theorem dX12_writerLine_116 : decode cX12_writerLine 116 = .ok (.if_icmp .eq 4, 3) := by decide +kernel
theorem dX12_writerLine_119 : decode cX12_writerLine 119 = .ok (.return_, 1) := by decide +kernel
theorem dX12_writerLine_120 : decode cX12_writerLine 120 = .ok (.aload_n 0, 1) := by decide +kernel
theorem dX12_writerLine_121 : decode cX12_writerLine 121 = .ok (.getfield 7, 3) := by decide +kernel
theorem dX12_writerLine_124 : decode cX12_writerLine 124 = .ok (.iconst 4, 1) := by decide +kernel
theorem dX12_writerLine_125 : decode cX12_writerLine 125 = .ok (.iaload, 1) := by decide +kernel
theorem dX12_writerLine_126 : decode cX12_writerLine 126 = .ok (.istore 6, 2) := by decide +kernel
theorem dX12_writerLine_128 : decode cX12_writerLine 128 = .ok (.aload_n 0, 1) := by decide +kernel
theorem dX12_writerLine_129 : decode cX12_writerLine 129 = .ok (.iload 6, 2) := by decide +kernel
theorem dX12_writerLine_131 : decode cX12_writerLine 131 = .ok (.iconst 0, 1) := by decide +kernel
theorem dX12_writerLine_132 : decode cX12_writerLine 132 = .ok (.iload 5, 2) := by decide +kernel
theorem dX12_writerLine_134 : decode cX12_writerLine 134 = .ok (.invokevirtual 132, 3) := by decide +kernel
theorem dX12_writerLine_137 : decode cX12_writerLine 137 = .ok (.aload_n 0, 1) := by decide +kernel
theorem dX12_writerLine_138 : decode cX12_writerLine 138 = .ok (.iload 6, 2) := by decide +kernel
theorem dX12_writerLine_140 : decode cX12_writerLine 140 = .ok (.iconst 1, 1) := by decide +kernel
theorem dX12_writerLine_141 : decode cX12_writerLine 141 = .ok (.iload_n 2, 1) := by decide +kernel
theorem dX12_writerLine_142 : decode cX12_writerLine 142 = .ok (.invokevirtual 132, 3) := by decide +kernel
theorem dX12_writerLine_145 : decode cX12_writerLine 145 = .ok (.aload_n 0, 1) := by decide +kernel
theorem dX12_writerLine_146 : decode cX12_writerLine 146 = .ok (.iload 6, 2) := by decide +kernel
theorem dX12_writerLine_148 : decode cX12_writerLine 148 = .ok (.iconst 2, 1) := by decide +kernel
theorem dX12_writerLine_149 : decode cX12_writerLine 149 = .ok (.iload_n 3, 1) := by decide +kernel
theorem dX12_writerLine_150 : decode cX12_writerLine 150 = .ok (.invokevirtual 132, 3) := by decide +kernel
theorem dX12_writerLine_153 : decode cX12_writerLine 153 = .ok (.aload_n 0, 1) := by decide +kernel
theorem dX12_writerLine_154 : decode cX12_writerLine 154 = .ok (.iload 6, 2) := by decide +kernel
theorem dX12_writerLine_156 : decode cX12_writerLine 156 = .ok (.iconst 3, 1) := by decide +kernel
theorem dX12_writerLine_157 : decode cX12_writerLine 157 = .ok (.iload 4, 2) := by decide +kernel
theorem dX12_writerLine_159 : decode cX12_writerLine 159 = .ok (.invokevirtual 132, 3) := by decide +kernel
theorem dX12_writerLine_162 : decode cX12_writerLine 162 = .ok (.iconst 0, 1) := by decide +kernel
theorem dX12_writerLine_163 : decode cX12_writerLine 163 = .ok (.istore 7, 2) := by decide +kernel
theorem dX12_writerLine_165 : decode cX12_writerLine 165 = .ok (.iload 7, 2) := by decide +kernel
theorem dX12_writerLine_167 : decode cX12_writerLine 167 = .ok (.bipush 20, 2) := by decide +kernel
theorem dX12_writerLine_169 : decode cX12_writerLine 169 = .ok (.if_icmp .ge 26, 3) := by decide +kernel
theorem dX12_writerLine_172 : decode cX12_writerLine 172 = .ok (.aload_n 0, 1) := by decide +kernel
theorem dX12_writerLine_173 : decode cX12_writerLine 173 = .ok (.getfield 7, 3) := by decide +kernel
theorem dX12_writerLine_176 : decode cX12_writerLine 176 = .ok (.bipush 116, 2) := by decide +kernel
theorem dX12_writerLine_178 : decode cX12_writerLine 178 = .ok (.bipush 20, 2) := by decide +kernel
theorem dX12_writerLine_180 : decode cX12_writerLine 180 = .ok (.iload 6, 2) := by decide +kernel
theorem dX12_writerLine_182 : decode cX12_writerLine 182 = .ok (.imul, 1) := by decide +kernel
theorem dX12_writerLine_183 : decode cX12_writerLine 183 = .ok (.iadd, 1) := by decide +kernel
theorem dX12_writerLine_184 : decode cX12_writerLine 184 = .ok (.iload 7, 2) := by decide +kernel
theorem dX12_writerLine_186 : decode cX12_writerLine 186 = .ok (.iadd, 1) := by decide +kernel
theorem dX12_writerLine_187 : decode cX12_writerLine 187 = .ok (.iconst 0, 1) := by decide +kernel
theorem dX12_writerLine_188 : decode cX12_writerLine 188 = .ok (.iastore, 1) := by decide +kernel
theorem dX12_writerLine_189 : decode cX12_writerLine 189 = .ok (.iinc 7 1, 3) := by decide +kernel
theorem dX12_writerLine_192 : decode cX12_writerLine 192 = .ok (.goto (-27), 3) := by decide +kernel
theorem dX12_writerLine_195 : decode cX12_writerLine 195 = .ok (.aload_n 0, 1) := by decide +kernel
theorem dX12_writerLine_196 : decode cX12_writerLine 196 = .ok (.getfield 7, 3) := by decide +kernel
theorem dX12_writerLine_199 : decode cX12_writerLine 199 = .ok (.iconst 4, 1) := by decide +kernel
theorem dX12_writerLine_200 : decode cX12_writerLine 200 = .ok (.dup2, 1) := by decide +kernel
theorem dX12_writerLine_201 : decode cX12_writerLine 201 = .ok (.iaload, 1) := by decide +kernel
theorem dX12_writerLine_202 : decode cX12_writerLine 202 = .ok (.iconst 1, 1) := by decide +kernel
theorem dX12_writerLine_203 : decode cX12_writerLine 203 = .ok (.iadd, 1) := by decide +kernel
theorem dX12_writerLine_204 : decode cX12_writerLine 204 = .ok (.iastore, 1) := by decide +kernel
theorem dX12_writerLine_205 : decode cX12_writerLine 205 = .ok (.return_, 1) := by decide +kernel
theorem dX12_isFigure_0 : decode cX12_isFigure 0 = .ok (.aload_n 0, 1) := by decide +kernel
theorem dX12_isFigure_1 : decode cX12_isFigure 1 = .ok (.invokevirtual 80, 3) := by decide +kernel
theorem dX12_isFigure_4 : decode cX12_isFigure 4 = .ok (.aload_n 0, 1) := by decide +kernel
theorem dX12_isFigure_5 : decode cX12_isFigure 5 = .ok (.getfield 70, 3) := by decide +kernel
theorem dX12_isFigure_8 : decode cX12_isFigure 8 = .ok (.aload_n 0, 1) := by decide +kernel
theorem dX12_isFigure_9 : decode cX12_isFigure 9 = .ok (.getfield 73, 3) := by decide +kernel
theorem dX12_isFigure_12 : decode cX12_isFigure 12 = .ok (.if_icmp .ge 25, 3) := by decide +kernel
theorem dX12_isFigure_15 : decode cX12_isFigure 15 = .ok (.aload_n 0, 1) := by decide +kernel
theorem dX12_isFigure_16 : decode cX12_isFigure 16 = .ok (.aload_n 0, 1) := by decide +kernel
theorem dX12_isFigure_17 : decode cX12_isFigure 17 = .ok (.getfield 70, 3) := by decide +kernel
theorem dX12_isFigure_20 : decode cX12_isFigure 20 = .ok (.invokevirtual 76, 3) := by decide +kernel
theorem dX12_isFigure_23 : decode cX12_isFigure 23 = .ok (.bipush 48, 2) := by decide +kernel
theorem dX12_isFigure_25 : decode cX12_isFigure 25 = .ok (.bipush 57, 2) := by decide +kernel
theorem dX12_isFigure_27 : decode cX12_isFigure 27 = .ok (.invokestatic 60, 3) := by decide +kernel
theorem dX12_isFigure_30 : decode cX12_isFigure 30 = .ok (.ifCond .eq 7, 3) := by decide +kernel
theorem dX12_isFigure_33 : decode cX12_isFigure 33 = .ok (.iconst 1, 1) := by decide +kernel
theorem dX12_isFigure_34 : decode cX12_isFigure 34 = .ok (.goto 4, 3) := by decide +kernel
theorem dX12_isFigure_37 : decode cX12_isFigure 37 = .ok (.iconst 0, 1) := by decide +kernel
theorem dX12_isFigure_38 : decode cX12_isFigure 38 = .ok (.ireturn, 1) := by decide +kernel
theorem dX12_speechLine_0 : decode cX12_speechLine 0 = .ok (.iconst 0, 1) := by decide +kernel
theorem dX12_speechLine_1 : decode cX12_speechLine 1 = .ok (.istore_n 1, 1) := by decide +kernel
theorem dX12_speechLine_2 : decode cX12_speechLine 2 = .ok (.iconst 1, 1) := by decide +kernel
theorem dX12_speechLine_3 : decode cX12_speechLine 3 = .ok (.istore_n 2, 1) := by decide +kernel
theorem dX12_speechLine_4 : decode cX12_speechLine 4 = .ok (.aload_n 0, 1) := by decide +kernel
theorem dX12_speechLine_5 : decode cX12_speechLine 5 = .ok (.getfield 25, 3) := by decide +kernel
theorem dX12_speechLine_8 : decode cX12_speechLine 8 = .ok (.iconst (-1), 1) := by decide +kernel
theorem dX12_speechLine_9 : decode cX12_speechLine 9 = .ok (.if_icmp .ne 95, 3) := by decide +kernel
theorem dX12_speechLine_12 : decode cX12_speechLine 12 = .ok (.iload_n 2, 1) := by decide +kernel
theorem dX12_speechLine_13 : decode cX12_speechLine 13 = .ok (.ifCond .eq 91, 3) := by decide +kernel
theorem dX12_speechLine_16 : decode cX12_speechLine 16 = .ok (.aload_n 0, 1) := by decide +kernel
theorem dX12_speechLine_17 : decode cX12_speechLine 17 = .ok (.invokevirtual 93, 3) := by decide +kernel
theorem dX12_speechLine_20 : decode cX12_speechLine 20 = .ok (.istore_n 3, 1) := by decide +kernel
theorem dX12_speechLine_21 : decode cX12_speechLine 21 = .ok (.iload_n 1, 1) := by decide +kernel
theorem dX12_speechLine_22 : decode cX12_speechLine 22 = .ok (.bipush 6, 2) := by decide +kernel
theorem dX12_speechLine_24 : decode cX12_speechLine 24 = .ok (.if_icmp .eq 14, 3) := by decide +kernel
theorem dX12_speechLine_27 : decode cX12_speechLine 27 = .ok (.aload_n 0, 1) := by decide +kernel
theorem dX12_speechLine_28 : decode cX12_speechLine 28 = .ok (.getfield 7, 3) := by decide +kernel
theorem dX12_speechLine_31 : decode cX12_speechLine 31 = .ok (.iconst 5, 1) := by decide +kernel
theorem dX12_speechLine_32 : decode cX12_speechLine 32 = .ok (.iaload, 1) := by decide +kernel
theorem dX12_speechLine_33 : decode cX12_speechLine 33 = .ok (.bipush 20, 2) := by decide +kernel
theorem dX12_speechLine_35 : decode cX12_speechLine 35 = .ok (.if_icmp .ne 8, 3) := by decide +kernel
theorem dX12_speechLine_38 : decode cX12_speechLine 38 = .ok (.aload_n 0, 1) := by decide +kernel
theorem dX12_speechLine_39 : decode cX12_speechLine 39 = .ok (.iload_n 3, 1) := by decide +kernel
theorem dX12_speechLine_40 : decode cX12_speechLine 40 = .ok (.invokevirtual 96, 3) := by decide +kernel
theorem dX12_speechLine_43 : decode cX12_speechLine 43 = .ok (.aload_n 0, 1) := by decide +kernel
theorem dX12_speechLine_44 : decode cX12_speechLine 44 = .ok (.iconst 0, 1) := by decide +kernel
theorem dX12_speechLine_45 : decode cX12_speechLine 45 = .ok (.aload_n 0, 1) := by decide +kernel
theorem dX12_speechLine_46 : decode cX12_speechLine 46 = .ok (.getfield 7, 3) := by decide +kernel
theorem dX12_speechLine_49 : decode cX12_speechLine 49 = .ok (.iconst 3, 1) := by decide +kernel
theorem dX12_speechLine_50 : decode cX12_speechLine 50 = .ok (.iaload, 1) := by decide +kernel
theorem dX12_speechLine_51 : decode cX12_speechLine 51 = .ok (.iconst 1, 1) := by decide +kernel
theorem dX12_speechLine_52 : decode cX12_speechLine 52 = .ok (.isub, 1) := by decide +kernel
theorem dX12_speechLine_53 : decode cX12_speechLine 53 = .ok (.invokevirtual 104, 3) := by decide +kernel
theorem dX12_speechLine_56 : decode cX12_speechLine 56 = .ok (.istore 4, 2) := by decide +kernel
theorem dX12_speechLine_58 : decode cX12_speechLine 58 = .ok (.aload_n 0, 1) := by decide +kernel
theorem dX12_speechLine_59 : decode cX12_speechLine 59 = .ok (.getfield 25, 3) := by decide +kernel
theorem dX12_speechLine_62 : decode cX12_speechLine 62 = .ok (.iconst (-1), 1) := by decide +kernel
theorem dX12_speechLine_63 : decode cX12_speechLine 63 = .ok (.if_icmp .eq 4, 3) := by decide +kernel
theorem dX12_speechLine_66 : decode cX12_speechLine 66 = .ok (.return_, 1) := by decide +kernel
theorem dX12_speechLine_67 : decode cX12_speechLine 67 = .ok (.aload_n 0, 1) := by decide +kernel
theorem dX12_speechLine_68 : decode cX12_speechLine 68 = .ok (.getfield 7, 3) := by decide +kernel
theorem dX12_speechLine_71 : decode cX12_speechLine 71 = .ok (.bipush 76, 2) := by decide +kernel
theorem dX12_speechLine_73 : decode cX12_speechLine 73 = .ok (.aload_n 0, 1) := by decide +kernel
theorem dX12_speechLine_74 : decode cX12_speechLine 74 = .ok (.getfield 7, 3) := by decide +kernel
theorem dX12_speechLine_77 : decode cX12_speechLine 77 = .ok (.iconst 5, 1) := by decide +kernel
theorem dX12_speechLine_78 : decode cX12_speechLine 78 = .ok (.iaload, 1) := by decide +kernel
theorem dX12_speechLine_79 : decode cX12_speechLine 79 = .ok (.iadd, 1) := by decide +kernel
theorem dX12_speechLine_80 : decode cX12_speechLine 80 = .ok (.iload 4, 2) := by decide +kernel
theorem dX12_speechLine_82 : decode cX12_speechLine 82 = .ok (.iastore, 1) := by decide +kernel
theorem dX12_speechLine_83 : decode cX12_speechLine 83 = .ok (.aload_n 0, 1) := by decide +kernel
theorem dX12_speechLine_84 : decode cX12_speechLine 84 = .ok (.getfield 7, 3) := by decide +kernel
theorem dX12_speechLine_87 : decode cX12_speechLine 87 = .ok (.iconst 5, 1) := by decide +kernel
theorem dX12_speechLine_88 : decode cX12_speechLine 88 = .ok (.dup2, 1) := by decide +kernel
theorem dX12_speechLine_89 : decode cX12_speechLine 89 = .ok (.iaload, 1) := by decide +kernel
theorem dX12_speechLine_90 : decode cX12_speechLine 90 = .ok (.iconst 1, 1) := by decide +kernel
theorem dX12_speechLine_91 : decode cX12_speechLine 91 = .ok (.iadd, 1) := by decide +kernel
theorem dX12_speechLine_92 : decode cX12_speechLine 92 = .ok (.iastore, 1) := by decide +kernel
theorem dX12_speechLine_93 : decode cX12_speechLine 93 = .ok (.iinc 1 1, 3) := by decide +kernel
theorem dX12_speechLine_96 : decode cX12_speechLine 96 = .ok (.aload_n 0, 1) := by decide +kernel
theorem dX12_speechLine_97 : decode cX12_speechLine 97 = .ok (.invokevirtual 136, 3) := by decide +kernel
theorem dX12_speechLine_100 : decode cX12_speechLine 100 = .ok (.istore_n 2, 1) := by decide +kernel
theorem dX12_speechLine_101 : decode cX12_speechLine 101 = .ok (.goto (-97), 3) := by decide +kernel
theorem dX12_speechLine_104 : decode cX12_speechLine 104 = .ok (.return_, 1) := by decide +kernel
theorem dX12_tells_0 : decode cX12_tells 0 = .ok (.aload_n 0, 1) := by decide +kernel
theorem dX12_tells_1 : decode cX12_tells 1 = .ok (.iload_n 2, 1) := by decide +kernel
theorem dX12_tells_2 : decode cX12_tells 2 = .ok (.iload_n 3, 1) := by decide +kernel
theorem dX12_tells_3 : decode cX12_tells 3 = .ok (.invokevirtual 104, 3) := by decide +kernel
theorem dX12_tells_6 : decode cX12_tells 6 = .ok (.istore 4, 2) := by decide +kernel
theorem dX12_tells_8 : decode cX12_tells 8 = .ok (.aload_n 0, 1) := by decide +kernel
theorem dX12_tells_9 : decode cX12_tells 9 = .ok (.getfield 25, 3) := by decide +kernel
theorem dX12_tells_12 : decode cX12_tells 12 = .ok (.iconst (-1), 1) := by decide +kernel
theorem dX12_tells_13 : decode cX12_tells 13 = .ok (.if_icmp .ne 11, 3) := by decide +kernel
theorem dX12_tells_16 : decode cX12_tells 16 = .ok (.aload_n 0, 1) := by decide +kernel
theorem dX12_tells_17 : decode cX12_tells 17 = .ok (.getfield 7, 3) := by decide +kernel
theorem dX12_tells_20 : decode cX12_tells 20 = .ok (.iload_n 1, 1) := by decide +kernel
theorem dX12_tells_21 : decode cX12_tells 21 = .ok (.iload 4, 2) := by decide +kernel
theorem dX12_tells_23 : decode cX12_tells 23 = .ok (.iastore, 1) := by decide +kernel
theorem dX12_tells_24 : decode cX12_tells 24 = .ok (.return_, 1) := by decide +kernel
theorem dX12_eveningLine_0 : decode cX12_eveningLine 0 = .ok (.aload_n 0, 1) := by decide +kernel
theorem dX12_eveningLine_1 : decode cX12_eveningLine 1 = .ok (.invokevirtual 93, 3) := by decide +kernel
theorem dX12_eveningLine_4 : decode cX12_eveningLine 4 = .ok (.istore_n 1, 1) := by decide +kernel
theorem dX12_eveningLine_5 : decode cX12_eveningLine 5 = .ok (.aload_n 0, 1) := by decide +kernel
theorem dX12_eveningLine_6 : decode cX12_eveningLine 6 = .ok (.ldc 140, 2) := by decide +kernel
theorem dX12_eveningLine_8 : decode cX12_eveningLine 8 = .ok (.invokevirtual 100, 3) := by decide +kernel
theorem dX12_eveningLine_11 : decode cX12_eveningLine 11 = .ok (.ifCond .eq 11, 3) := by decide +kernel
theorem dX12_eveningLine_14 : decode cX12_eveningLine 14 = .ok (.aload_n 0, 1) := by decide +kernel
theorem dX12_eveningLine_15 : decode cX12_eveningLine 15 = .ok (.iload_n 1, 1) := by decide +kernel
theorem dX12_eveningLine_16 : decode cX12_eveningLine 16 = .ok (.invokevirtual 142, 3) := by decide +kernel
theorem dX12_eveningLine_19 : decode cX12_eveningLine 19 = .ok (.goto 108, 3) := by decide +kernel
theorem dX12_eveningLine_22 : decode cX12_eveningLine 22 = .ok (.aload_n 0, 1) := by decide +kernel
theorem dX12_eveningLine_23 : decode cX12_eveningLine 23 = .ok (.ldc 145, 2) := by decide +kernel
theorem dX12_eveningLine_25 : decode cX12_eveningLine 25 = .ok (.invokevirtual 100, 3) := by decide +kernel
theorem dX12_eveningLine_28 : decode cX12_eveningLine 28 = .ok (.ifCond .eq 11, 3) := by decide +kernel
theorem dX12_eveningLine_31 : decode cX12_eveningLine 31 = .ok (.aload_n 0, 1) := by decide +kernel
theorem dX12_eveningLine_32 : decode cX12_eveningLine 32 = .ok (.iload_n 1, 1) := by decide +kernel
theorem dX12_eveningLine_33 : decode cX12_eveningLine 33 = .ok (.invokevirtual 147, 3) := by decide +kernel
theorem dX12_eveningLine_36 : decode cX12_eveningLine 36 = .ok (.goto 91, 3) := by decide +kernel
theorem dX12_eveningLine_39 : decode cX12_eveningLine 39 = .ok (.aload_n 0, 1) := by decide +kernel
theorem dX12_eveningLine_40 : decode cX12_eveningLine 40 = .ok (.ldc 150, 2) := by decide +kernel
theorem dX12_eveningLine_42 : decode cX12_eveningLine 42 = .ok (.invokevirtual 100, 3) := by decide +kernel
theorem dX12_eveningLine_45 : decode cX12_eveningLine 45 = .ok (.ifCond .eq 10, 3) := by decide +kernel
theorem dX12_eveningLine_48 : decode cX12_eveningLine 48 = .ok (.aload_n 0, 1) := by decide +kernel
theorem dX12_eveningLine_49 : decode cX12_eveningLine 49 = .ok (.invokevirtual 152, 3) := by decide +kernel
theorem dX12_eveningLine_52 : decode cX12_eveningLine 52 = .ok (.goto 75, 3) := by decide +kernel
theorem dX12_eveningLine_55 : decode cX12_eveningLine 55 = .ok (.aload_n 0, 1) := by decide +kernel
theorem dX12_eveningLine_56 : decode cX12_eveningLine 56 = .ok (.ldc 155, 2) := by decide +kernel
theorem dX12_eveningLine_58 : decode cX12_eveningLine 58 = .ok (.invokevirtual 100, 3) := by decide +kernel
theorem dX12_eveningLine_61 : decode cX12_eveningLine 61 = .ok (.ifCond .eq 15, 3) := by decide +kernel
theorem dX12_eveningLine_64 : decode cX12_eveningLine 64 = .ok (.aload_n 0, 1) := by decide +kernel
theorem dX12_eveningLine_65 : decode cX12_eveningLine 65 = .ok (.bipush 7, 2) := by decide +kernel
theorem dX12_eveningLine_67 : decode cX12_eveningLine 67 = .ok (.iconst 1, 1) := by decide +kernel
theorem dX12_eveningLine_68 : decode cX12_eveningLine 68 = .ok (.bipush 9, 2) := by decide +kernel
theorem dX12_eveningLine_70 : decode cX12_eveningLine 70 = .ok (.invokevirtual 157, 3) := by decide +kernel
theorem dX12_eveningLine_73 : decode cX12_eveningLine 73 = .ok (.goto 54, 3) := by decide +kernel
theorem dX12_eveningLine_76 : decode cX12_eveningLine 76 = .ok (.aload_n 0, 1) := by decide +kernel
theorem dX12_eveningLine_77 : decode cX12_eveningLine 77 = .ok (.ldc 160, 2) := by decide +kernel
theorem dX12_eveningLine_79 : decode cX12_eveningLine 79 = .ok (.invokevirtual 100, 3) := by decide +kernel
theorem dX12_eveningLine_82 : decode cX12_eveningLine 82 = .ok (.ifCond .eq 15, 3) := by decide +kernel
theorem dX12_eveningLine_85 : decode cX12_eveningLine 85 = .ok (.aload_n 0, 1) := by decide +kernel
theorem dX12_eveningLine_86 : decode cX12_eveningLine 86 = .ok (.bipush 8, 2) := by decide +kernel
theorem dX12_eveningLine_88 : decode cX12_eveningLine 88 = .ok (.iconst 0, 1) := by decide +kernel
theorem dX12_eveningLine_89 : decode cX12_eveningLine 89 = .ok (.bipush 100, 2) := by decide +kernel
theorem dX12_eveningLine_91 : decode cX12_eveningLine 91 = .ok (.invokevirtual 157, 3) := by decide +kernel
theorem dX12_eveningLine_94 : decode cX12_eveningLine 94 = .ok (.goto 33, 3) := by decide +kernel
theorem dX12_eveningLine_97 : decode cX12_eveningLine 97 = .ok (.aload_n 0, 1) := by decide +kernel
theorem dX12_eveningLine_98 : decode cX12_eveningLine 98 = .ok (.ldc 162, 2) := by decide +kernel
theorem dX12_eveningLine_100 : decode cX12_eveningLine 100 = .ok (.invokevirtual 100, 3) := by decide +kernel
theorem dX12_eveningLine_103 : decode cX12_eveningLine 103 = .ok (.ifCond .eq 16, 3) := by decide +kernel
theorem dX12_eveningLine_106 : decode cX12_eveningLine 106 = .ok (.aload_n 0, 1) := by decide +kernel
theorem dX12_eveningLine_107 : decode cX12_eveningLine 107 = .ok (.bipush 9, 2) := by decide +kernel
theorem dX12_eveningLine_109 : decode cX12_eveningLine 109 = .ok (.iconst 0, 1) := by decide +kernel
theorem dX12_eveningLine_110 : decode cX12_eveningLine 110 = .ok (.sipush 999, 3) := by decide +kernel
theorem dX12_eveningLine_113 : decode cX12_eveningLine 113 = .ok (.invokevirtual 157, 3) := by decide +kernel
theorem dX12_eveningLine_116 : decode cX12_eveningLine 116 = .ok (.goto 11, 3) := by decide +kernel
theorem dX12_eveningLine_119 : decode cX12_eveningLine 119 = .ok (.aload_n 0, 1) := by decide +kernel
theorem dX12_eveningLine_120 : decode cX12_eveningLine 120 = .ok (.aload_n 0, 1) := by decide +kernel
theorem dX12_eveningLine_121 : decode cX12_eveningLine 121 = .ok (.getfield 70, 3) := by decide +kernel
theorem dX12_eveningLine_124 : decode cX12_eveningLine 124 = .ok (.invokevirtual 96, 3) := by decide +kernel
theorem dX12_eveningLine_127 : decode cX12_eveningLine 127 = .ok (.return_, 1) := by decide +kernel
theorem dX12_begins_0 : decode cX12_begins 0 = .ok (.aload_n 0, 1) := by decide +kernel
theorem dX12_begins_1 : decode cX12_begins 1 = .ok (.iconst (-1), 1) := by decide +kernel
theorem dX12_begins_2 : decode cX12_begins 2 = .ok (.putfield 25, 3) := by decide +kernel
theorem dX12_begins_5 : decode cX12_begins 5 = .ok (.aload_n 0, 1) := by decide +kernel
theorem dX12_begins_6 : decode cX12_begins 6 = .ok (.iconst (-1), 1) := by decide +kernel
theorem dX12_begins_7 : decode cX12_begins 7 = .ok (.putfield 67, 3) := by decide +kernel
theorem dX12_begins_10 : decode cX12_begins 10 = .ok (.aload_n 0, 1) := by decide +kernel
theorem dX12_begins_11 : decode cX12_begins 11 = .ok (.aload_n 0, 1) := by decide +kernel
theorem dX12_begins_12 : decode cX12_begins 12 = .ok (.getfield 64, 3) := by decide +kernel
theorem dX12_begins_15 : decode cX12_begins 15 = .ok (.putfield 73, 3) := by decide +kernel
theorem dX12_begins_18 : decode cX12_begins 18 = .ok (.aload_n 0, 1) := by decide +kernel
theorem dX12_begins_19 : decode cX12_begins 19 = .ok (.iconst 0, 1) := by decide +kernel
theorem dX12_begins_20 : decode cX12_begins 20 = .ok (.putfield 64, 3) := by decide +kernel
theorem dX12_begins_23 : decode cX12_begins 23 = .ok (.aload_n 0, 1) := by decide +kernel
theorem dX12_begins_24 : decode cX12_begins 24 = .ok (.iconst 0, 1) := by decide +kernel
theorem dX12_begins_25 : decode cX12_begins 25 = .ok (.putfield 70, 3) := by decide +kernel
theorem dX12_begins_28 : decode cX12_begins 28 = .ok (.aload_n 0, 1) := by decide +kernel
theorem dX12_begins_29 : decode cX12_begins 29 = .ok (.iconst 0, 1) := by decide +kernel
theorem dX12_begins_30 : decode cX12_begins 30 = .ok (.putfield 164, 3) := by decide +kernel
theorem dX12_begins_33 : decode cX12_begins 33 = .ok (.return_, 1) := by decide +kernel
theorem dX12_read_0 : decode cX12_read 0 = .ok (.aload_n 0, 1) := by decide +kernel
theorem dX12_read_1 : decode cX12_read 1 = .ok (.invokevirtual 80, 3) := by decide +kernel
theorem dX12_read_4 : decode cX12_read 4 = .ok (.aload_n 0, 1) := by decide +kernel
theorem dX12_read_5 : decode cX12_read 5 = .ok (.getfield 70, 3) := by decide +kernel
theorem dX12_read_8 : decode cX12_read 8 = .ok (.aload_n 0, 1) := by decide +kernel
theorem dX12_read_9 : decode cX12_read 9 = .ok (.getfield 73, 3) := by decide +kernel
theorem dX12_read_12 : decode cX12_read 12 = .ok (.if_icmp .ge 7, 3) := by decide +kernel
theorem dX12_read_15 : decode cX12_read 15 = .ok (.iconst 1, 1) := by decide +kernel
theorem dX12_read_16 : decode cX12_read 16 = .ok (.goto 4, 3) := by decide +kernel
theorem dX12_read_19 : decode cX12_read 19 = .ok (.iconst 0, 1) := by decide +kernel
theorem dX12_read_20 : decode cX12_read 20 = .ok (.istore_n 2, 1) := by decide +kernel
theorem dX12_read_21 : decode cX12_read 21 = .ok (.iconst 0, 1) := by decide +kernel
theorem dX12_read_22 : decode cX12_read 22 = .ok (.istore_n 3, 1) := by decide +kernel
theorem dX12_read_23 : decode cX12_read 23 = .ok (.iload_n 2, 1) := by decide +kernel
theorem dX12_read_24 : decode cX12_read 24 = .ok (.ifCond .eq 120, 3) := by decide +kernel
theorem dX12_read_27 : decode cX12_read 27 = .ok (.aload_n 0, 1) := by decide +kernel
theorem dX12_read_28 : decode cX12_read 28 = .ok (.getfield 25, 3) := by decide +kernel
theorem dX12_read_31 : decode cX12_read 31 = .ok (.iconst (-1), 1) := by decide +kernel
theorem dX12_read_32 : decode cX12_read 32 = .ok (.if_icmp .ne 112, 3) := by decide +kernel
theorem dX12_read_35 : decode cX12_read 35 = .ok (.aload_n 0, 1) := by decide +kernel
theorem dX12_read_36 : decode cX12_read 36 = .ok (.invokevirtual 80, 3) := by decide +kernel
theorem dX12_read_39 : decode cX12_read 39 = .ok (.iload_n 3, 1) := by decide +kernel
theorem dX12_read_40 : decode cX12_read 40 = .ok (.iload_n 1, 1) := by decide +kernel
theorem dX12_read_41 : decode cX12_read 41 = .ok (.ifCond .eq 8, 3) := by decide +kernel
theorem dX12_read_44 : decode cX12_read 44 = .ok (.bipush 12, 2) := by decide +kernel
theorem dX12_read_46 : decode cX12_read 46 = .ok (.goto 5, 3) := by decide +kernel
theorem dX12_read_49 : decode cX12_read 49 = .ok (.bipush 14, 2) := by decide +kernel
theorem dX12_read_51 : decode cX12_read 51 = .ok (.if_icmp .ne 14, 3) := by decide +kernel
theorem dX12_read_54 : decode cX12_read 54 = .ok (.aload_n 0, 1) := by decide +kernel
theorem dX12_read_55 : decode cX12_read 55 = .ok (.aload_n 0, 1) := by decide +kernel
theorem dX12_read_56 : decode cX12_read 56 = .ok (.getfield 70, 3) := by decide +kernel
theorem dX12_read_59 : decode cX12_read 59 = .ok (.invokevirtual 96, 3) := by decide +kernel
theorem dX12_read_62 : decode cX12_read 62 = .ok (.goto 18, 3) := by decide +kernel
theorem dX12_read_65 : decode cX12_read 65 = .ok (.iload_n 1, 1) := by decide +kernel
theorem dX12_read_66 : decode cX12_read 66 = .ok (.ifCond .eq 10, 3) := by decide +kernel
theorem dX12_read_69 : decode cX12_read 69 = .ok (.aload_n 0, 1) := by decide +kernel
theorem dX12_read_70 : decode cX12_read 70 = .ok (.invokevirtual 167, 3) := by decide +kernel
theorem dX12_read_73 : decode cX12_read 73 = .ok (.goto 7, 3) := by decide +kernel
theorem dX12_read_76 : decode cX12_read 76 = .ok (.aload_n 0, 1) := by decide +kernel
theorem dX12_read_77 : decode cX12_read 77 = .ok (.invokevirtual 170, 3) := by decide +kernel
theorem dX12_read_80 : decode cX12_read 80 = .ok (.iinc 3 1, 3) := by decide +kernel
theorem dX12_read_83 : decode cX12_read 83 = .ok (.aload_n 0, 1) := by decide +kernel
theorem dX12_read_84 : decode cX12_read 84 = .ok (.invokevirtual 80, 3) := by decide +kernel
theorem dX12_read_87 : decode cX12_read 87 = .ok (.aload_n 0, 1) := by decide +kernel
theorem dX12_read_88 : decode cX12_read 88 = .ok (.getfield 25, 3) := by decide +kernel
theorem dX12_read_91 : decode cX12_read 91 = .ok (.iconst (-1), 1) := by decide +kernel
theorem dX12_read_92 : decode cX12_read 92 = .ok (.if_icmp .ne 14, 3) := by decide +kernel
theorem dX12_read_95 : decode cX12_read 95 = .ok (.aload_n 0, 1) := by decide +kernel
theorem dX12_read_96 : decode cX12_read 96 = .ok (.getfield 70, 3) := by decide +kernel
theorem dX12_read_99 : decode cX12_read 99 = .ok (.aload_n 0, 1) := by decide +kernel
theorem dX12_read_100 : decode cX12_read 100 = .ok (.getfield 73, 3) := by decide +kernel
theorem dX12_read_103 : decode cX12_read 103 = .ok (.if_icmp .ne 8, 3) := by decide +kernel
theorem dX12_read_106 : decode cX12_read 106 = .ok (.iconst 0, 1) := by decide +kernel
theorem dX12_read_107 : decode cX12_read 107 = .ok (.istore_n 2, 1) := by decide +kernel
theorem dX12_read_108 : decode cX12_read 108 = .ok (.goto (-85), 3) := by decide +kernel
theorem dX12_read_111 : decode cX12_read 111 = .ok (.aload_n 0, 1) := by decide +kernel
theorem dX12_read_112 : decode cX12_read 112 = .ok (.bipush 59, 2) := by decide +kernel
theorem dX12_read_114 : decode cX12_read 114 = .ok (.invokevirtual 173, 3) := by decide +kernel
theorem dX12_read_117 : decode cX12_read 117 = .ok (.ifCond .eq 16, 3) := by decide +kernel
theorem dX12_read_120 : decode cX12_read 120 = .ok (.aload_n 0, 1) := by decide +kernel
theorem dX12_read_121 : decode cX12_read 121 = .ok (.dup, 1) := by decide +kernel
theorem dX12_read_122 : decode cX12_read 122 = .ok (.getfield 70, 3) := by decide +kernel
theorem dX12_read_125 : decode cX12_read 125 = .ok (.iconst 1, 1) := by decide +kernel
theorem dX12_read_126 : decode cX12_read 126 = .ok (.iadd, 1) := by decide +kernel
theorem dX12_read_127 : decode cX12_read 127 = .ok (.putfield 70, 3) := by decide +kernel
theorem dX12_read_130 : decode cX12_read 130 = .ok (.goto (-107), 3) := by decide +kernel
theorem dX12_read_133 : decode cX12_read 133 = .ok (.aload_n 0, 1) := by decide +kernel
theorem dX12_read_134 : decode cX12_read 134 = .ok (.aload_n 0, 1) := by decide +kernel
theorem dX12_read_135 : decode cX12_read 135 = .ok (.getfield 70, 3) := by decide +kernel
theorem dX12_read_138 : decode cX12_read 138 = .ok (.invokevirtual 96, 3) := by decide +kernel
theorem dX12_read_141 : decode cX12_read 141 = .ok (.goto (-118), 3) := by decide +kernel
theorem dX12_read_144 : decode cX12_read 144 = .ok (.iload_n 3, 1) := by decide +kernel
theorem dX12_read_145 : decode cX12_read 145 = .ok (.ireturn, 1) := by decide +kernel
theorem dX12_putsAside_0 : decode cX12_putsAside 0 = .ok (.iconst 0, 1) := by decide +kernel
theorem dX12_putsAside_1 : decode cX12_putsAside 1 = .ok (.istore_n 1, 1) := by decide +kernel
theorem dX12_putsAside_2 : decode cX12_putsAside 2 = .ok (.iload_n 1, 1) := by decide +kernel
theorem dX12_putsAside_3 : decode cX12_putsAside 3 = .ok (.sipush 456, 3) := by decide +kernel
theorem dX12_putsAside_6 : decode cX12_putsAside 6 = .ok (.if_icmp .ge 21, 3) := by decide +kernel
theorem dX12_putsAside_9 : decode cX12_putsAside 9 = .ok (.aload_n 0, 1) := by decide +kernel
theorem dX12_putsAside_10 : decode cX12_putsAside 10 = .ok (.getfield 16, 3) := by decide +kernel
theorem dX12_putsAside_13 : decode cX12_putsAside 13 = .ok (.iload_n 1, 1) := by decide +kernel
theorem dX12_putsAside_14 : decode cX12_putsAside 14 = .ok (.aload_n 0, 1) := by decide +kernel
theorem dX12_putsAside_15 : decode cX12_putsAside 15 = .ok (.getfield 7, 3) := by decide +kernel
theorem dX12_putsAside_18 : decode cX12_putsAside 18 = .ok (.iload_n 1, 1) := by decide +kernel
theorem dX12_putsAside_19 : decode cX12_putsAside 19 = .ok (.iaload, 1) := by decide +kernel
theorem dX12_putsAside_20 : decode cX12_putsAside 20 = .ok (.iastore, 1) := by decide +kernel
theorem dX12_putsAside_21 : decode cX12_putsAside 21 = .ok (.iinc 1 1, 3) := by decide +kernel
theorem dX12_putsAside_24 : decode cX12_putsAside 24 = .ok (.goto (-22), 3) := by decide +kernel
theorem dX12_putsAside_27 : decode cX12_putsAside 27 = .ok (.return_, 1) := by decide +kernel
theorem dX12_comesBack_0 : decode cX12_comesBack 0 = .ok (.iconst 0, 1) := by decide +kernel
theorem dX12_comesBack_1 : decode cX12_comesBack 1 = .ok (.istore_n 1, 1) := by decide +kernel
theorem dX12_comesBack_2 : decode cX12_comesBack 2 = .ok (.iload_n 1, 1) := by decide +kernel
theorem dX12_comesBack_3 : decode cX12_comesBack 3 = .ok (.sipush 456, 3) := by decide +kernel
theorem dX12_comesBack_6 : decode cX12_comesBack 6 = .ok (.if_icmp .ge 21, 3) := by decide +kernel
theorem dX12_comesBack_9 : decode cX12_comesBack 9 = .ok (.aload_n 0, 1) := by decide +kernel
theorem dX12_comesBack_10 : decode cX12_comesBack 10 = .ok (.getfield 7, 3) := by decide +kernel
theorem dX12_comesBack_13 : decode cX12_comesBack 13 = .ok (.iload_n 1, 1) := by decide +kernel
theorem dX12_comesBack_14 : decode cX12_comesBack 14 = .ok (.aload_n 0, 1) := by decide +kernel
theorem dX12_comesBack_15 : decode cX12_comesBack 15 = .ok (.getfield 16, 3) := by decide +kernel
theorem dX12_comesBack_18 : decode cX12_comesBack 18 = .ok (.iload_n 1, 1) := by decide +kernel
theorem dX12_comesBack_19 : decode cX12_comesBack 19 = .ok (.iaload, 1) := by decide +kernel
theorem dX12_comesBack_20 : decode cX12_comesBack 20 = .ok (.iastore, 1) := by decide +kernel
theorem dX12_comesBack_21 : decode cX12_comesBack 21 = .ok (.iinc 1 1, 3) := by decide +kernel
theorem dX12_comesBack_24 : decode cX12_comesBack 24 = .ok (.goto (-22), 3) := by decide +kernel
theorem dX12_comesBack_27 : decode cX12_comesBack 27 = .ok (.return_, 1) := by decide +kernel
theorem dX12_evening_0 : decode cX12_evening 0 = .ok (.aload_n 0, 1) := by decide +kernel
theorem dX12_evening_1 : decode cX12_evening 1 = .ok (.invokevirtual 177, 3) := by decide +kernel
theorem dX12_evening_4 : decode cX12_evening 4 = .ok (.aload_n 0, 1) := by decide +kernel
theorem dX12_evening_5 : decode cX12_evening 5 = .ok (.invokevirtual 180, 3) := by decide +kernel
theorem dX12_evening_8 : decode cX12_evening 8 = .ok (.aload_n 0, 1) := by decide +kernel
theorem dX12_evening_9 : decode cX12_evening 9 = .ok (.iconst 0, 1) := by decide +kernel
theorem dX12_evening_10 : decode cX12_evening 10 = .ok (.invokevirtual 183, 3) := by decide +kernel
theorem dX12_evening_13 : decode cX12_evening 13 = .ok (.istore_n 1, 1) := by decide +kernel
theorem dX12_evening_14 : decode cX12_evening 14 = .ok (.aload_n 0, 1) := by decide +kernel
theorem dX12_evening_15 : decode cX12_evening 15 = .ok (.aload_n 0, 1) := by decide +kernel
theorem dX12_evening_16 : decode cX12_evening 16 = .ok (.getfield 25, 3) := by decide +kernel
theorem dX12_evening_19 : decode cX12_evening 19 = .ok (.iconst (-1), 1) := by decide +kernel
theorem dX12_evening_20 : decode cX12_evening 20 = .ok (.if_icmp .eq 7, 3) := by decide +kernel
theorem dX12_evening_23 : decode cX12_evening 23 = .ok (.iconst 1, 1) := by decide +kernel
theorem dX12_evening_24 : decode cX12_evening 24 = .ok (.goto 19, 3) := by decide +kernel
theorem dX12_evening_27 : decode cX12_evening 27 = .ok (.aload_n 0, 1) := by decide +kernel
theorem dX12_evening_28 : decode cX12_evening 28 = .ok (.getfield 7, 3) := by decide +kernel
theorem dX12_evening_31 : decode cX12_evening 31 = .ok (.iconst 0, 1) := by decide +kernel
theorem dX12_evening_32 : decode cX12_evening 32 = .ok (.iaload, 1) := by decide +kernel
theorem dX12_evening_33 : decode cX12_evening 33 = .ok (.bipush 12, 2) := by decide +kernel
theorem dX12_evening_35 : decode cX12_evening 35 = .ok (.if_icmp .ne 7, 3) := by decide +kernel
theorem dX12_evening_38 : decode cX12_evening 38 = .ok (.iconst 2, 1) := by decide +kernel
theorem dX12_evening_39 : decode cX12_evening 39 = .ok (.goto 4, 3) := by decide +kernel
theorem dX12_evening_42 : decode cX12_evening 42 = .ok (.iconst 0, 1) := by decide +kernel
theorem dX12_evening_43 : decode cX12_evening 43 = .ok (.putfield 57, 3) := by decide +kernel
theorem dX12_evening_46 : decode cX12_evening 46 = .ok (.aload_n 0, 1) := by decide +kernel
theorem dX12_evening_47 : decode cX12_evening 47 = .ok (.getfield 57, 3) := by decide +kernel
theorem dX12_evening_50 : decode cX12_evening 50 = .ok (.ifCond .le 9, 3) := by decide +kernel
theorem dX12_evening_53 : decode cX12_evening 53 = .ok (.aload_n 0, 1) := by decide +kernel
theorem dX12_evening_54 : decode cX12_evening 54 = .ok (.invokevirtual 187, 3) := by decide +kernel
theorem dX12_evening_57 : decode cX12_evening 57 = .ok (.iconst 0, 1) := by decide +kernel
theorem dX12_evening_58 : decode cX12_evening 58 = .ok (.ireturn, 1) := by decide +kernel
theorem dX12_evening_59 : decode cX12_evening 59 = .ok (.aload_n 0, 1) := by decide +kernel
theorem dX12_evening_60 : decode cX12_evening 60 = .ok (.getfield 7, 3) := by decide +kernel
theorem dX12_evening_63 : decode cX12_evening 63 = .ok (.iconst 0, 1) := by decide +kernel
theorem dX12_evening_64 : decode cX12_evening 64 = .ok (.dup2, 1) := by decide +kernel
theorem dX12_evening_65 : decode cX12_evening 65 = .ok (.iaload, 1) := by decide +kernel
theorem dX12_evening_66 : decode cX12_evening 66 = .ok (.iconst 1, 1) := by decide +kernel
theorem dX12_evening_67 : decode cX12_evening 67 = .ok (.iadd, 1) := by decide +kernel
theorem dX12_evening_68 : decode cX12_evening 68 = .ok (.iastore, 1) := by decide +kernel
theorem dX12_evening_69 : decode cX12_evening 69 = .ok (.aload_n 0, 1) := by decide +kernel
theorem dX12_evening_70 : decode cX12_evening 70 = .ok (.iconst 0, 1) := by decide +kernel
theorem dX12_evening_71 : decode cX12_evening 71 = .ok (.putfield 190, 3) := by decide +kernel
theorem dX12_evening_74 : decode cX12_evening 74 = .ok (.aload_n 0, 1) := by decide +kernel
theorem dX12_evening_75 : decode cX12_evening 75 = .ok (.getfield 7, 3) := by decide +kernel
theorem dX12_evening_78 : decode cX12_evening 78 = .ok (.iconst 0, 1) := by decide +kernel
theorem dX12_evening_79 : decode cX12_evening 79 = .ok (.iaload, 1) := by decide +kernel
theorem dX12_evening_80 : decode cX12_evening 80 = .ok (.ireturn, 1) := by decide +kernel
theorem dX12_part_0 : decode cX12_part 0 = .ok (.aload_n 0, 1) := by decide +kernel
theorem dX12_part_1 : decode cX12_part 1 = .ok (.getfield 25, 3) := by decide +kernel
theorem dX12_part_4 : decode cX12_part 4 = .ok (.iconst (-1), 1) := by decide +kernel
theorem dX12_part_5 : decode cX12_part 5 = .ok (.if_icmp .eq 5, 3) := by decide +kernel
theorem dX12_part_8 : decode cX12_part 8 = .ok (.iconst 0, 1) := by decide +kernel
theorem dX12_part_9 : decode cX12_part 9 = .ok (.ireturn, 1) := by decide +kernel
theorem dX12_part_10 : decode cX12_part 10 = .ok (.aload_n 0, 1) := by decide +kernel
theorem dX12_part_11 : decode cX12_part 11 = .ok (.invokevirtual 80, 3) := by decide +kernel
theorem dX12_part_14 : decode cX12_part 14 = .ok (.aload_n 0, 1) := by decide +kernel
theorem dX12_part_15 : decode cX12_part 15 = .ok (.getfield 70, 3) := by decide +kernel
theorem dX12_part_18 : decode cX12_part 18 = .ok (.aload_n 0, 1) := by decide +kernel
theorem dX12_part_19 : decode cX12_part 19 = .ok (.getfield 73, 3) := by decide +kernel
theorem dX12_part_22 : decode cX12_part 22 = .ok (.if_icmp .ge 30, 3) := by decide +kernel
theorem dX12_part_25 : decode cX12_part 25 = .ok (.aload_n 0, 1) := by decide +kernel
theorem dX12_part_26 : decode cX12_part 26 = .ok (.aload_n 0, 1) := by decide +kernel
theorem dX12_part_27 : decode cX12_part 27 = .ok (.getfield 70, 3) := by decide +kernel
theorem dX12_part_30 : decode cX12_part 30 = .ok (.invokevirtual 76, 3) := by decide +kernel
theorem dX12_part_33 : decode cX12_part 33 = .ok (.bipush 48, 2) := by decide +kernel
theorem dX12_part_35 : decode cX12_part 35 = .ok (.bipush 57, 2) := by decide +kernel
theorem dX12_part_37 : decode cX12_part 37 = .ok (.invokestatic 60, 3) := by decide +kernel
theorem dX12_part_40 : decode cX12_part 40 = .ok (.ifCond .eq 12, 3) := by decide +kernel
theorem dX12_part_43 : decode cX12_part 43 = .ok (.aload_n 0, 1) := by decide +kernel
theorem dX12_part_44 : decode cX12_part 44 = .ok (.iconst 0, 1) := by decide +kernel
theorem dX12_part_45 : decode cX12_part 45 = .ok (.sipush 999, 3) := by decide +kernel
theorem dX12_part_48 : decode cX12_part 48 = .ok (.invokevirtual 104, 3) := by decide +kernel
theorem dX12_part_51 : decode cX12_part 51 = .ok (.ireturn, 1) := by decide +kernel
theorem dX12_part_52 : decode cX12_part 52 = .ok (.aload_n 0, 1) := by decide +kernel
theorem dX12_part_53 : decode cX12_part 53 = .ok (.ldc 145, 2) := by decide +kernel
theorem dX12_part_55 : decode cX12_part 55 = .ok (.invokevirtual 100, 3) := by decide +kernel
theorem dX12_part_58 : decode cX12_part 58 = .ok (.ifCond .eq 7, 3) := by decide +kernel
theorem dX12_part_61 : decode cX12_part 61 = .ok (.iconst 0, 1) := by decide +kernel
theorem dX12_part_62 : decode cX12_part 62 = .ok (.goto 83, 3) := by decide +kernel
theorem dX12_part_65 : decode cX12_part 65 = .ok (.aload_n 0, 1) := by decide +kernel
theorem dX12_part_66 : decode cX12_part 66 = .ok (.ldc 140, 2) := by decide +kernel
theorem dX12_part_68 : decode cX12_part 68 = .ok (.invokevirtual 100, 3) := by decide +kernel
theorem dX12_part_71 : decode cX12_part 71 = .ok (.ifCond .eq 7, 3) := by decide +kernel
theorem dX12_part_74 : decode cX12_part 74 = .ok (.iconst 1, 1) := by decide +kernel
theorem dX12_part_75 : decode cX12_part 75 = .ok (.goto 70, 3) := by decide +kernel
theorem dX12_part_78 : decode cX12_part 78 = .ok (.aload_n 0, 1) := by decide +kernel
theorem dX12_part_79 : decode cX12_part 79 = .ok (.ldc 193, 2) := by decide +kernel
theorem dX12_part_81 : decode cX12_part 81 = .ok (.invokevirtual 100, 3) := by decide +kernel
theorem dX12_part_84 : decode cX12_part 84 = .ok (.ifCond .eq 7, 3) := by decide +kernel
theorem dX12_part_87 : decode cX12_part 87 = .ok (.iconst 2, 1) := by decide +kernel
theorem dX12_part_88 : decode cX12_part 88 = .ok (.goto 57, 3) := by decide +kernel
theorem dX12_part_91 : decode cX12_part 91 = .ok (.aload_n 0, 1) := by decide +kernel
theorem dX12_part_92 : decode cX12_part 92 = .ok (.ldc 195, 2) := by decide +kernel
theorem dX12_part_94 : decode cX12_part 94 = .ok (.invokevirtual 100, 3) := by decide +kernel
theorem dX12_part_97 : decode cX12_part 97 = .ok (.ifCond .eq 7, 3) := by decide +kernel
theorem dX12_part_100 : decode cX12_part 100 = .ok (.iconst 3, 1) := by decide +kernel
theorem dX12_part_101 : decode cX12_part 101 = .ok (.goto 44, 3) := by decide +kernel
theorem dX12_part_104 : decode cX12_part 104 = .ok (.aload_n 0, 1) := by decide +kernel
theorem dX12_part_105 : decode cX12_part 105 = .ok (.ldc 121, 2) := by decide +kernel
theorem dX12_part_107 : decode cX12_part 107 = .ok (.invokevirtual 100, 3) := by decide +kernel
theorem dX12_part_110 : decode cX12_part 110 = .ok (.ifCond .eq 7, 3) := by decide +kernel
theorem dX12_part_113 : decode cX12_part 113 = .ok (.iconst 4, 1) := by decide +kernel
theorem dX12_part_114 : decode cX12_part 114 = .ok (.goto 31, 3) := by decide +kernel
theorem dX12_part_117 : decode cX12_part 117 = .ok (.aload_n 0, 1) := by decide +kernel
theorem dX12_part_118 : decode cX12_part 118 = .ok (.ldc 123, 2) := by decide +kernel
theorem dX12_part_120 : decode cX12_part 120 = .ok (.invokevirtual 100, 3) := by decide +kernel
theorem dX12_part_123 : decode cX12_part 123 = .ok (.ifCond .eq 7, 3) := by decide +kernel
theorem dX12_part_126 : decode cX12_part 126 = .ok (.iconst 5, 1) := by decide +kernel
theorem dX12_part_127 : decode cX12_part 127 = .ok (.goto 18, 3) := by decide +kernel
theorem dX12_part_130 : decode cX12_part 130 = .ok (.aload_n 0, 1) := by decide +kernel
theorem dX12_part_131 : decode cX12_part 131 = .ok (.ldc 125, 2) := by decide +kernel
theorem dX12_part_133 : decode cX12_part 133 = .ok (.invokevirtual 100, 3) := by decide +kernel
theorem dX12_part_136 : decode cX12_part 136 = .ok (.ifCond .eq 8, 3) := by decide +kernel
theorem dX12_part_139 : decode cX12_part 139 = .ok (.bipush 6, 2) := by decide +kernel
theorem dX12_part_141 : decode cX12_part 141 = .ok (.goto 4, 3) := by decide +kernel
theorem dX12_part_144 : decode cX12_part 144 = .ok (.iconst (-1), 1) := by decide +kernel
theorem dX12_part_145 : decode cX12_part 145 = .ok (.istore_n 1, 1) := by decide +kernel
theorem dX12_part_146 : decode cX12_part 146 = .ok (.iload_n 1, 1) := by decide +kernel
theorem dX12_part_147 : decode cX12_part 147 = .ok (.iconst (-1), 1) := by decide +kernel
theorem dX12_part_148 : decode cX12_part 148 = .ok (.if_icmp .ne 13, 3) := by decide +kernel
theorem dX12_part_151 : decode cX12_part 151 = .ok (.aload_n 0, 1) := by decide +kernel
theorem dX12_part_152 : decode cX12_part 152 = .ok (.aload_n 0, 1) := by decide +kernel
theorem dX12_part_153 : decode cX12_part 153 = .ok (.getfield 70, 3) := by decide +kernel
theorem dX12_part_156 : decode cX12_part 156 = .ok (.invokevirtual 96, 3) := by decide +kernel
theorem dX12_part_159 : decode cX12_part 159 = .ok (.iconst 0, 1) := by decide +kernel
theorem dX12_part_160 : decode cX12_part 160 = .ok (.ireturn, 1) := by decide +kernel
theorem dX12_part_161 : decode cX12_part 161 = .ok (.aload_n 0, 1) := by decide +kernel
theorem dX12_part_162 : decode cX12_part 162 = .ok (.getfield 29, 3) := by decide +kernel
theorem dX12_part_165 : decode cX12_part 165 = .ok (.iload_n 1, 1) := by decide +kernel
theorem dX12_part_166 : decode cX12_part 166 = .ok (.iaload, 1) := by decide +kernel
theorem dX12_part_167 : decode cX12_part 167 = .ok (.ireturn, 1) := by decide +kernel
theorem dX12_sum_0 : decode cX12_sum 0 = .ok (.aload_n 0, 1) := by decide +kernel
theorem dX12_sum_1 : decode cX12_sum 1 = .ok (.invokevirtual 197, 3) := by decide +kernel
theorem dX12_sum_4 : decode cX12_sum 4 = .ok (.istore_n 1, 1) := by decide +kernel
theorem dX12_sum_5 : decode cX12_sum 5 = .ok (.aload_n 0, 1) := by decide +kernel
theorem dX12_sum_6 : decode cX12_sum 6 = .ok (.getfield 25, 3) := by decide +kernel
theorem dX12_sum_9 : decode cX12_sum 9 = .ok (.iconst (-1), 1) := by decide +kernel
theorem dX12_sum_10 : decode cX12_sum 10 = .ok (.if_icmp .ne 32, 3) := by decide +kernel
theorem dX12_sum_13 : decode cX12_sum 13 = .ok (.aload_n 0, 1) := by decide +kernel
theorem dX12_sum_14 : decode cX12_sum 14 = .ok (.bipush 43, 2) := by decide +kernel
theorem dX12_sum_16 : decode cX12_sum 16 = .ok (.invokevirtual 173, 3) := by decide +kernel
theorem dX12_sum_19 : decode cX12_sum 19 = .ok (.ifCond .eq 23, 3) := by decide +kernel
theorem dX12_sum_22 : decode cX12_sum 22 = .ok (.aload_n 0, 1) := by decide +kernel
theorem dX12_sum_23 : decode cX12_sum 23 = .ok (.dup, 1) := by decide +kernel
theorem dX12_sum_24 : decode cX12_sum 24 = .ok (.getfield 70, 3) := by decide +kernel
theorem dX12_sum_27 : decode cX12_sum 27 = .ok (.iconst 1, 1) := by decide +kernel
theorem dX12_sum_28 : decode cX12_sum 28 = .ok (.iadd, 1) := by decide +kernel
theorem dX12_sum_29 : decode cX12_sum 29 = .ok (.putfield 70, 3) := by decide +kernel
theorem dX12_sum_32 : decode cX12_sum 32 = .ok (.iload_n 1, 1) := by decide +kernel
theorem dX12_sum_33 : decode cX12_sum 33 = .ok (.aload_n 0, 1) := by decide +kernel
theorem dX12_sum_34 : decode cX12_sum 34 = .ok (.invokevirtual 197, 3) := by decide +kernel
theorem dX12_sum_37 : decode cX12_sum 37 = .ok (.iadd, 1) := by decide +kernel
theorem dX12_sum_38 : decode cX12_sum 38 = .ok (.istore_n 1, 1) := by decide +kernel
theorem dX12_sum_39 : decode cX12_sum 39 = .ok (.goto (-34), 3) := by decide +kernel
theorem dX12_sum_42 : decode cX12_sum 42 = .ok (.iload_n 1, 1) := by decide +kernel
theorem dX12_sum_43 : decode cX12_sum 43 = .ok (.ireturn, 1) := by decide +kernel
theorem dX12_plain_0 : decode cX12_plain 0 = .ok (.aload_n 0, 1) := by decide +kernel
theorem dX12_plain_1 : decode cX12_plain 1 = .ok (.ldc 200, 2) := by decide +kernel
theorem dX12_plain_3 : decode cX12_plain 3 = .ok (.invokevirtual 100, 3) := by decide +kernel
theorem dX12_plain_6 : decode cX12_plain 6 = .ok (.ifCond .eq 8, 3) := by decide +kernel
theorem dX12_plain_9 : decode cX12_plain 9 = .ok (.aload_n 0, 1) := by decide +kernel
theorem dX12_plain_10 : decode cX12_plain 10 = .ok (.getfield 201, 3) := by decide +kernel
theorem dX12_plain_13 : decode cX12_plain 13 = .ok (.ireturn, 1) := by decide +kernel
theorem dX12_plain_14 : decode cX12_plain 14 = .ok (.aload_n 0, 1) := by decide +kernel
theorem dX12_plain_15 : decode cX12_plain 15 = .ok (.ldc 205, 2) := by decide +kernel
theorem dX12_plain_17 : decode cX12_plain 17 = .ok (.invokevirtual 100, 3) := by decide +kernel
theorem dX12_plain_20 : decode cX12_plain 20 = .ok (.ifCond .eq 8, 3) := by decide +kernel
theorem dX12_plain_23 : decode cX12_plain 23 = .ok (.aload_n 0, 1) := by decide +kernel
theorem dX12_plain_24 : decode cX12_plain 24 = .ok (.getfield 207, 3) := by decide +kernel
theorem dX12_plain_27 : decode cX12_plain 27 = .ok (.ireturn, 1) := by decide +kernel
theorem dX12_plain_28 : decode cX12_plain 28 = .ok (.aload_n 0, 1) := by decide +kernel
theorem dX12_plain_29 : decode cX12_plain 29 = .ok (.invokevirtual 210, 3) := by decide +kernel
theorem dX12_plain_32 : decode cX12_plain 32 = .ok (.istore_n 1, 1) := by decide +kernel
theorem dX12_plain_33 : decode cX12_plain 33 = .ok (.aload_n 0, 1) := by decide +kernel
theorem dX12_plain_34 : decode cX12_plain 34 = .ok (.getfield 25, 3) := by decide +kernel
theorem dX12_plain_37 : decode cX12_plain 37 = .ok (.iconst (-1), 1) := by decide +kernel
theorem dX12_plain_38 : decode cX12_plain 38 = .ok (.if_icmp .eq 5, 3) := by decide +kernel
theorem dX12_plain_41 : decode cX12_plain 41 = .ok (.iconst 0, 1) := by decide +kernel
theorem dX12_plain_42 : decode cX12_plain 42 = .ok (.ireturn, 1) := by decide +kernel
theorem dX12_plain_43 : decode cX12_plain 43 = .ok (.aload_n 0, 1) := by decide +kernel
theorem dX12_plain_44 : decode cX12_plain 44 = .ok (.bipush 60, 2) := by decide +kernel
theorem dX12_plain_46 : decode cX12_plain 46 = .ok (.invokevirtual 173, 3) := by decide +kernel
theorem dX12_plain_49 : decode cX12_plain 49 = .ok (.istore_n 2, 1) := by decide +kernel
theorem dX12_plain_50 : decode cX12_plain 50 = .ok (.iload_n 2, 1) := by decide +kernel
theorem dX12_plain_51 : decode cX12_plain 51 = .ok (.ifCond .ne 22, 3) := by decide +kernel
theorem dX12_plain_54 : decode cX12_plain 54 = .ok (.aload_n 0, 1) := by decide +kernel
theorem dX12_plain_55 : decode cX12_plain 55 = .ok (.bipush 62, 2) := by decide +kernel
theorem dX12_plain_57 : decode cX12_plain 57 = .ok (.invokevirtual 173, 3) := by decide +kernel
theorem dX12_plain_60 : decode cX12_plain 60 = .ok (.ifCond .ne 13, 3) := by decide +kernel
theorem dX12_plain_63 : decode cX12_plain 63 = .ok (.aload_n 0, 1) := by decide +kernel
theorem dX12_plain_64 : decode cX12_plain 64 = .ok (.aload_n 0, 1) := by decide +kernel
theorem dX12_plain_65 : decode cX12_plain 65 = .ok (.getfield 70, 3) := by decide +kernel
theorem dX12_plain_68 : decode cX12_plain 68 = .ok (.invokevirtual 96, 3) := by decide +kernel
theorem dX12_plain_71 : decode cX12_plain 71 = .ok (.iconst 0, 1) := by decide +kernel
theorem dX12_plain_72 : decode cX12_plain 72 = .ok (.ireturn, 1) := by decide +kernel
theorem dX12_plain_73 : decode cX12_plain 73 = .ok (.aload_n 0, 1) := by decide +kernel
theorem dX12_plain_74 : decode cX12_plain 74 = .ok (.dup, 1) := by decide +kernel
theorem dX12_plain_75 : decode cX12_plain 75 = .ok (.getfield 70, 3) := by decide +kernel
theorem dX12_plain_78 : decode cX12_plain 78 = .ok (.iconst 1, 1) := by decide +kernel
theorem dX12_plain_79 : decode cX12_plain 79 = .ok (.iadd, 1) := by decide +kernel
theorem dX12_plain_80 : decode cX12_plain 80 = .ok (.putfield 70, 3) := by decide +kernel
theorem dX12_plain_83 : decode cX12_plain 83 = .ok (.aload_n 0, 1) := by decide +kernel
theorem dX12_plain_84 : decode cX12_plain 84 = .ok (.invokevirtual 210, 3) := by decide +kernel
theorem dX12_plain_87 : decode cX12_plain 87 = .ok (.istore_n 3, 1) := by decide +kernel
theorem dX12_plain_88 : decode cX12_plain 88 = .ok (.iload_n 2, 1) := by decide +kernel
theorem dX12_plain_89 : decode cX12_plain 89 = .ok (.ifCond .eq 16, 3) := by decide +kernel
theorem dX12_plain_92 : decode cX12_plain 92 = .ok (.iload_n 1, 1) := by decide +kernel
theorem dX12_plain_93 : decode cX12_plain 93 = .ok (.iload_n 3, 1) := by decide +kernel
theorem dX12_plain_94 : decode cX12_plain 94 = .ok (.if_icmp .ge 7, 3) := by decide +kernel
theorem dX12_plain_97 : decode cX12_plain 97 = .ok (.iconst 1, 1) := by decide +kernel
theorem dX12_plain_98 : decode cX12_plain 98 = .ok (.goto 17, 3) := by decide +kernel
theorem dX12_plain_101 : decode cX12_plain 101 = .ok (.iconst 0, 1) := by decide +kernel
theorem dX12_plain_102 : decode cX12_plain 102 = .ok (.goto 13, 3) := by decide +kernel
theorem dX12_plain_105 : decode cX12_plain 105 = .ok (.iload_n 1, 1) := by decide +kernel
theorem dX12_plain_106 : decode cX12_plain 106 = .ok (.iload_n 3, 1) := by decide +kernel
theorem dX12_plain_107 : decode cX12_plain 107 = .ok (.if_icmp .le 7, 3) := by decide +kernel
theorem dX12_plain_110 : decode cX12_plain 110 = .ok (.iconst 1, 1) := by decide +kernel
theorem dX12_plain_111 : decode cX12_plain 111 = .ok (.goto 4, 3) := by decide +kernel
theorem dX12_plain_114 : decode cX12_plain 114 = .ok (.iconst 0, 1) := by decide +kernel
theorem dX12_plain_115 : decode cX12_plain 115 = .ok (.ireturn, 1) := by decide +kernel
theorem dX12_atom_0 : decode cX12_atom 0 = .ok (.aload_n 0, 1) := by decide +kernel
theorem dX12_atom_1 : decode cX12_atom 1 = .ok (.getfield 25, 3) := by decide +kernel
theorem dX12_atom_4 : decode cX12_atom 4 = .ok (.iconst (-1), 1) := by decide +kernel
theorem dX12_atom_5 : decode cX12_atom 5 = .ok (.if_icmp .eq 5, 3) := by decide +kernel
theorem dX12_atom_8 : decode cX12_atom 8 = .ok (.iconst 0, 1) := by decide +kernel
theorem dX12_atom_9 : decode cX12_atom 9 = .ok (.ireturn, 1) := by decide +kernel
theorem dX12_atom_10 : decode cX12_atom 10 = .ok (.aload_n 0, 1) := by decide +kernel
theorem dX12_atom_11 : decode cX12_atom 11 = .ok (.invokevirtual 93, 3) := by decide +kernel
theorem dX12_atom_14 : decode cX12_atom 14 = .ok (.istore_n 1, 1) := by decide +kernel
theorem dX12_atom_15 : decode cX12_atom 15 = .ok (.aload_n 0, 1) := by decide +kernel
theorem dX12_atom_16 : decode cX12_atom 16 = .ok (.ldc 213, 2) := by decide +kernel
theorem dX12_atom_18 : decode cX12_atom 18 = .ok (.invokevirtual 100, 3) := by decide +kernel
theorem dX12_atom_21 : decode cX12_atom 21 = .ok (.istore_n 2, 1) := by decide +kernel
theorem dX12_atom_22 : decode cX12_atom 22 = .ok (.iload_n 2, 1) := by decide +kernel
theorem dX12_atom_23 : decode cX12_atom 23 = .ok (.ifCond .ne 17, 3) := by decide +kernel
theorem dX12_atom_26 : decode cX12_atom 26 = .ok (.aload_n 0, 1) := by decide +kernel
theorem dX12_atom_27 : decode cX12_atom 27 = .ok (.bipush 40, 2) := by decide +kernel
theorem dX12_atom_29 : decode cX12_atom 29 = .ok (.invokevirtual 173, 3) := by decide +kernel
theorem dX12_atom_32 : decode cX12_atom 32 = .ok (.ifCond .ne 8, 3) := by decide +kernel
theorem dX12_atom_35 : decode cX12_atom 35 = .ok (.aload_n 0, 1) := by decide +kernel
theorem dX12_atom_36 : decode cX12_atom 36 = .ok (.invokevirtual 215, 3) := by decide +kernel
theorem dX12_atom_39 : decode cX12_atom 39 = .ok (.ireturn, 1) := by decide +kernel
theorem dX12_atom_40 : decode cX12_atom 40 = .ok (.aload_n 0, 1) := by decide +kernel
theorem dX12_atom_41 : decode cX12_atom 41 = .ok (.getfield 164, 3) := by decide +kernel
theorem dX12_atom_44 : decode cX12_atom 44 = .ok (.bipush 6, 2) := by decide +kernel
theorem dX12_atom_46 : decode cX12_atom 46 = .ok (.if_icmp .ne 10, 3) := by decide +kernel
theorem dX12_atom_49 : decode cX12_atom 49 = .ok (.aload_n 0, 1) := by decide +kernel
theorem dX12_atom_50 : decode cX12_atom 50 = .ok (.iload_n 1, 1) := by decide +kernel
theorem dX12_atom_51 : decode cX12_atom 51 = .ok (.invokevirtual 96, 3) := by decide +kernel
theorem dX12_atom_54 : decode cX12_atom 54 = .ok (.iconst 0, 1) := by decide +kernel
theorem dX12_atom_55 : decode cX12_atom 55 = .ok (.ireturn, 1) := by decide +kernel
theorem dX12_atom_56 : decode cX12_atom 56 = .ok (.aload_n 0, 1) := by decide +kernel
theorem dX12_atom_57 : decode cX12_atom 57 = .ok (.dup, 1) := by decide +kernel
theorem dX12_atom_58 : decode cX12_atom 58 = .ok (.getfield 164, 3) := by decide +kernel
theorem dX12_atom_61 : decode cX12_atom 61 = .ok (.iconst 1, 1) := by decide +kernel
theorem dX12_atom_62 : decode cX12_atom 62 = .ok (.iadd, 1) := by decide +kernel
theorem dX12_atom_63 : decode cX12_atom 63 = .ok (.putfield 164, 3) := by decide +kernel
theorem dX12_atom_66 : decode cX12_atom 66 = .ok (.iconst 0, 1) := by decide +kernel
theorem dX12_atom_67 : decode cX12_atom 67 = .ok (.istore_n 3, 1) := by decide +kernel
theorem dX12_atom_68 : decode cX12_atom 68 = .ok (.iload_n 2, 1) := by decide +kernel
theorem dX12_atom_69 : decode cX12_atom 69 = .ok (.ifCond .eq 19, 3) := by decide +kernel
theorem dX12_atom_72 : decode cX12_atom 72 = .ok (.aload_n 0, 1) := by decide +kernel
theorem dX12_atom_73 : decode cX12_atom 73 = .ok (.invokevirtual 218, 3) := by decide +kernel
theorem dX12_atom_76 : decode cX12_atom 76 = .ok (.ifCond .ne 7, 3) := by decide +kernel
theorem dX12_atom_79 : decode cX12_atom 79 = .ok (.iconst 1, 1) := by decide +kernel
theorem dX12_atom_80 : decode cX12_atom 80 = .ok (.goto 4, 3) := by decide +kernel
theorem dX12_atom_83 : decode cX12_atom 83 = .ok (.iconst 0, 1) := by decide +kernel
theorem dX12_atom_84 : decode cX12_atom 84 = .ok (.istore_n 3, 1) := by decide +kernel
theorem dX12_atom_85 : decode cX12_atom 85 = .ok (.goto 53, 3) := by decide +kernel
theorem dX12_atom_88 : decode cX12_atom 88 = .ok (.aload_n 0, 1) := by decide +kernel
theorem dX12_atom_89 : decode cX12_atom 89 = .ok (.dup, 1) := by decide +kernel
theorem dX12_atom_90 : decode cX12_atom 90 = .ok (.getfield 70, 3) := by decide +kernel
theorem dX12_atom_93 : decode cX12_atom 93 = .ok (.iconst 1, 1) := by decide +kernel
theorem dX12_atom_94 : decode cX12_atom 94 = .ok (.iadd, 1) := by decide +kernel
theorem dX12_atom_95 : decode cX12_atom 95 = .ok (.putfield 70, 3) := by decide +kernel
theorem dX12_atom_98 : decode cX12_atom 98 = .ok (.aload_n 0, 1) := by decide +kernel
theorem dX12_atom_99 : decode cX12_atom 99 = .ok (.invokevirtual 221, 3) := by decide +kernel
theorem dX12_atom_102 : decode cX12_atom 102 = .ok (.istore_n 3, 1) := by decide +kernel
theorem dX12_atom_103 : decode cX12_atom 103 = .ok (.aload_n 0, 1) := by decide +kernel
theorem dX12_atom_104 : decode cX12_atom 104 = .ok (.getfield 25, 3) := by decide +kernel
theorem dX12_atom_107 : decode cX12_atom 107 = .ok (.iconst (-1), 1) := by decide +kernel
theorem dX12_atom_108 : decode cX12_atom 108 = .ok (.if_icmp .ne 20, 3) := by decide +kernel
theorem dX12_atom_111 : decode cX12_atom 111 = .ok (.aload_n 0, 1) := by decide +kernel
theorem dX12_atom_112 : decode cX12_atom 112 = .ok (.bipush 41, 2) := by decide +kernel
theorem dX12_atom_114 : decode cX12_atom 114 = .ok (.invokevirtual 173, 3) := by decide +kernel
theorem dX12_atom_117 : decode cX12_atom 117 = .ok (.ifCond .ne 11, 3) := by decide +kernel
theorem dX12_atom_120 : decode cX12_atom 120 = .ok (.aload_n 0, 1) := by decide +kernel
theorem dX12_atom_121 : decode cX12_atom 121 = .ok (.aload_n 0, 1) := by decide +kernel
theorem dX12_atom_122 : decode cX12_atom 122 = .ok (.getfield 70, 3) := by decide +kernel
theorem dX12_atom_125 : decode cX12_atom 125 = .ok (.invokevirtual 96, 3) := by decide +kernel
theorem dX12_atom_128 : decode cX12_atom 128 = .ok (.aload_n 0, 1) := by decide +kernel
theorem dX12_atom_129 : decode cX12_atom 129 = .ok (.dup, 1) := by decide +kernel
theorem dX12_atom_130 : decode cX12_atom 130 = .ok (.getfield 70, 3) := by decide +kernel
theorem dX12_atom_133 : decode cX12_atom 133 = .ok (.iconst 1, 1) := by decide +kernel
theorem dX12_atom_134 : decode cX12_atom 134 = .ok (.iadd, 1) := by decide +kernel
theorem dX12_atom_135 : decode cX12_atom 135 = .ok (.putfield 70, 3) := by decide +kernel
theorem dX12_atom_138 : decode cX12_atom 138 = .ok (.aload_n 0, 1) := by decide +kernel
theorem dX12_atom_139 : decode cX12_atom 139 = .ok (.dup, 1) := by decide +kernel
theorem dX12_atom_140 : decode cX12_atom 140 = .ok (.getfield 164, 3) := by decide +kernel
theorem dX12_atom_143 : decode cX12_atom 143 = .ok (.iconst 1, 1) := by decide +kernel
theorem dX12_atom_144 : decode cX12_atom 144 = .ok (.isub, 1) := by decide +kernel
theorem dX12_atom_145 : decode cX12_atom 145 = .ok (.putfield 164, 3) := by decide +kernel
theorem dX12_atom_148 : decode cX12_atom 148 = .ok (.iload_n 3, 1) := by decide +kernel
theorem dX12_atom_149 : decode cX12_atom 149 = .ok (.ireturn, 1) := by decide +kernel
theorem dX12_every_0 : decode cX12_every 0 = .ok (.aload_n 0, 1) := by decide +kernel
theorem dX12_every_1 : decode cX12_every 1 = .ok (.invokevirtual 218, 3) := by decide +kernel
theorem dX12_every_4 : decode cX12_every 4 = .ok (.istore_n 1, 1) := by decide +kernel
theorem dX12_every_5 : decode cX12_every 5 = .ok (.aload_n 0, 1) := by decide +kernel
theorem dX12_every_6 : decode cX12_every 6 = .ok (.getfield 25, 3) := by decide +kernel
theorem dX12_every_9 : decode cX12_every 9 = .ok (.iconst (-1), 1) := by decide +kernel
theorem dX12_every_10 : decode cX12_every 10 = .ok (.if_icmp .ne 34, 3) := by decide +kernel
theorem dX12_every_13 : decode cX12_every 13 = .ok (.aload_n 0, 1) := by decide +kernel
theorem dX12_every_14 : decode cX12_every 14 = .ok (.ldc 224, 2) := by decide +kernel
theorem dX12_every_16 : decode cX12_every 16 = .ok (.invokevirtual 100, 3) := by decide +kernel
theorem dX12_every_19 : decode cX12_every 19 = .ok (.ifCond .eq 25, 3) := by decide +kernel
theorem dX12_every_22 : decode cX12_every 22 = .ok (.aload_n 0, 1) := by decide +kernel
theorem dX12_every_23 : decode cX12_every 23 = .ok (.invokevirtual 218, 3) := by decide +kernel
theorem dX12_every_26 : decode cX12_every 26 = .ok (.istore_n 2, 1) := by decide +kernel
theorem dX12_every_27 : decode cX12_every 27 = .ok (.iload_n 1, 1) := by decide +kernel
theorem dX12_every_28 : decode cX12_every 28 = .ok (.ifCond .eq 11, 3) := by decide +kernel
theorem dX12_every_31 : decode cX12_every 31 = .ok (.iload_n 2, 1) := by decide +kernel
theorem dX12_every_32 : decode cX12_every 32 = .ok (.ifCond .eq 7, 3) := by decide +kernel
theorem dX12_every_35 : decode cX12_every 35 = .ok (.iconst 1, 1) := by decide +kernel
theorem dX12_every_36 : decode cX12_every 36 = .ok (.goto 4, 3) := by decide +kernel
theorem dX12_every_39 : decode cX12_every 39 = .ok (.iconst 0, 1) := by decide +kernel
theorem dX12_every_40 : decode cX12_every 40 = .ok (.istore_n 1, 1) := by decide +kernel
theorem dX12_every_41 : decode cX12_every 41 = .ok (.goto (-36), 3) := by decide +kernel
theorem dX12_every_44 : decode cX12_every 44 = .ok (.iload_n 1, 1) := by decide +kernel
theorem dX12_every_45 : decode cX12_every 45 = .ok (.ireturn, 1) := by decide +kernel
theorem dX12_some_0 : decode cX12_some 0 = .ok (.aload_n 0, 1) := by decide +kernel
theorem dX12_some_1 : decode cX12_some 1 = .ok (.invokevirtual 226, 3) := by decide +kernel
theorem dX12_some_4 : decode cX12_some 4 = .ok (.istore_n 1, 1) := by decide +kernel
theorem dX12_some_5 : decode cX12_some 5 = .ok (.aload_n 0, 1) := by decide +kernel
theorem dX12_some_6 : decode cX12_some 6 = .ok (.getfield 25, 3) := by decide +kernel
theorem dX12_some_9 : decode cX12_some 9 = .ok (.iconst (-1), 1) := by decide +kernel
theorem dX12_some_10 : decode cX12_some 10 = .ok (.if_icmp .ne 34, 3) := by decide +kernel
theorem dX12_some_13 : decode cX12_some 13 = .ok (.aload_n 0, 1) := by decide +kernel
theorem dX12_some_14 : decode cX12_some 14 = .ok (.ldc 229, 2) := by decide +kernel
theorem dX12_some_16 : decode cX12_some 16 = .ok (.invokevirtual 100, 3) := by decide +kernel
theorem dX12_some_19 : decode cX12_some 19 = .ok (.ifCond .eq 25, 3) := by decide +kernel
theorem dX12_some_22 : decode cX12_some 22 = .ok (.aload_n 0, 1) := by decide +kernel
theorem dX12_some_23 : decode cX12_some 23 = .ok (.invokevirtual 226, 3) := by decide +kernel
theorem dX12_some_26 : decode cX12_some 26 = .ok (.istore_n 2, 1) := by decide +kernel
theorem dX12_some_27 : decode cX12_some 27 = .ok (.iload_n 1, 1) := by decide +kernel
theorem dX12_some_28 : decode cX12_some 28 = .ok (.ifCond .ne 7, 3) := by decide +kernel
theorem dX12_some_31 : decode cX12_some 31 = .ok (.iload_n 2, 1) := by decide +kernel
theorem dX12_some_32 : decode cX12_some 32 = .ok (.ifCond .eq 7, 3) := by decide +kernel
theorem dX12_some_35 : decode cX12_some 35 = .ok (.iconst 1, 1) := by decide +kernel
theorem dX12_some_36 : decode cX12_some 36 = .ok (.goto 4, 3) := by decide +kernel
theorem dX12_some_39 : decode cX12_some 39 = .ok (.iconst 0, 1) := by decide +kernel
theorem dX12_some_40 : decode cX12_some 40 = .ok (.istore_n 1, 1) := by decide +kernel
theorem dX12_some_41 : decode cX12_some 41 = .ok (.goto (-36), 3) := by decide +kernel
theorem dX12_some_44 : decode cX12_some 44 = .ok (.iload_n 1, 1) := by decide +kernel
theorem dX12_some_45 : decode cX12_some 45 = .ok (.ireturn, 1) := by decide +kernel
theorem dX12_lawLine_0 : decode cX12_lawLine 0 = .ok (.aload_n 0, 1) := by decide +kernel
theorem dX12_lawLine_1 : decode cX12_lawLine 1 = .ok (.ldc 231, 2) := by decide +kernel
theorem dX12_lawLine_3 : decode cX12_lawLine 3 = .ok (.invokevirtual 100, 3) := by decide +kernel
theorem dX12_lawLine_6 : decode cX12_lawLine 6 = .ok (.ifCond .eq 7, 3) := by decide +kernel
theorem dX12_lawLine_9 : decode cX12_lawLine 9 = .ok (.iconst 0, 1) := by decide +kernel
theorem dX12_lawLine_10 : decode cX12_lawLine 10 = .ok (.goto 30, 3) := by decide +kernel
theorem dX12_lawLine_13 : decode cX12_lawLine 13 = .ok (.aload_n 0, 1) := by decide +kernel
theorem dX12_lawLine_14 : decode cX12_lawLine 14 = .ok (.ldc 233, 2) := by decide +kernel
theorem dX12_lawLine_16 : decode cX12_lawLine 16 = .ok (.invokevirtual 100, 3) := by decide +kernel
theorem dX12_lawLine_19 : decode cX12_lawLine 19 = .ok (.ifCond .eq 7, 3) := by decide +kernel
theorem dX12_lawLine_22 : decode cX12_lawLine 22 = .ok (.iconst 1, 1) := by decide +kernel
theorem dX12_lawLine_23 : decode cX12_lawLine 23 = .ok (.goto 17, 3) := by decide +kernel
theorem dX12_lawLine_26 : decode cX12_lawLine 26 = .ok (.aload_n 0, 1) := by decide +kernel
theorem dX12_lawLine_27 : decode cX12_lawLine 27 = .ok (.ldc 160, 2) := by decide +kernel
theorem dX12_lawLine_29 : decode cX12_lawLine 29 = .ok (.invokevirtual 100, 3) := by decide +kernel
theorem dX12_lawLine_32 : decode cX12_lawLine 32 = .ok (.ifCond .eq 7, 3) := by decide +kernel
theorem dX12_lawLine_35 : decode cX12_lawLine 35 = .ok (.iconst 2, 1) := by decide +kernel
theorem dX12_lawLine_36 : decode cX12_lawLine 36 = .ok (.goto 4, 3) := by decide +kernel
theorem dX12_lawLine_39 : decode cX12_lawLine 39 = .ok (.iconst (-1), 1) := by decide +kernel
theorem dX12_lawLine_40 : decode cX12_lawLine 40 = .ok (.istore_n 1, 1) := by decide +kernel
theorem dX12_lawLine_41 : decode cX12_lawLine 41 = .ok (.iload_n 1, 1) := by decide +kernel
theorem dX12_lawLine_42 : decode cX12_lawLine 42 = .ok (.iconst (-1), 1) := by decide +kernel
theorem dX12_lawLine_43 : decode cX12_lawLine 43 = .ok (.if_icmp .ne 12, 3) := by decide +kernel
theorem dX12_lawLine_46 : decode cX12_lawLine 46 = .ok (.aload_n 0, 1) := by decide +kernel
theorem dX12_lawLine_47 : decode cX12_lawLine 47 = .ok (.aload_n 0, 1) := by decide +kernel
theorem dX12_lawLine_48 : decode cX12_lawLine 48 = .ok (.getfield 70, 3) := by decide +kernel
theorem dX12_lawLine_51 : decode cX12_lawLine 51 = .ok (.invokevirtual 96, 3) := by decide +kernel
theorem dX12_lawLine_54 : decode cX12_lawLine 54 = .ok (.return_, 1) := by decide +kernel
theorem dX12_lawLine_55 : decode cX12_lawLine 55 = .ok (.aload_n 0, 1) := by decide +kernel
theorem dX12_lawLine_56 : decode cX12_lawLine 56 = .ok (.iconst 0, 1) := by decide +kernel
theorem dX12_lawLine_57 : decode cX12_lawLine 57 = .ok (.bipush 99, 2) := by decide +kernel
theorem dX12_lawLine_59 : decode cX12_lawLine 59 = .ok (.invokevirtual 104, 3) := by decide +kernel
theorem dX12_lawLine_62 : decode cX12_lawLine 62 = .ok (.istore_n 2, 1) := by decide +kernel
theorem dX12_lawLine_63 : decode cX12_lawLine 63 = .ok (.aload_n 0, 1) := by decide +kernel
theorem dX12_lawLine_64 : decode cX12_lawLine 64 = .ok (.getfield 25, 3) := by decide +kernel
theorem dX12_lawLine_67 : decode cX12_lawLine 67 = .ok (.iconst (-1), 1) := by decide +kernel
theorem dX12_lawLine_68 : decode cX12_lawLine 68 = .ok (.if_icmp .eq 4, 3) := by decide +kernel
theorem dX12_lawLine_71 : decode cX12_lawLine 71 = .ok (.return_, 1) := by decide +kernel
theorem dX12_lawLine_72 : decode cX12_lawLine 72 = .ok (.aload_n 0, 1) := by decide +kernel
theorem dX12_lawLine_73 : decode cX12_lawLine 73 = .ok (.ldc 235, 2) := by decide +kernel
theorem dX12_lawLine_75 : decode cX12_lawLine 75 = .ok (.invokevirtual 100, 3) := by decide +kernel
theorem dX12_lawLine_78 : decode cX12_lawLine 78 = .ok (.ifCond .eq 10, 3) := by decide +kernel
theorem dX12_lawLine_81 : decode cX12_lawLine 81 = .ok (.aload_n 0, 1) := by decide +kernel
theorem dX12_lawLine_82 : decode cX12_lawLine 82 = .ok (.invokevirtual 221, 3) := by decide +kernel
theorem dX12_lawLine_85 : decode cX12_lawLine 85 = .ok (.ifCond .eq 7, 3) := by decide +kernel
theorem dX12_lawLine_88 : decode cX12_lawLine 88 = .ok (.iconst 1, 1) := by decide +kernel
theorem dX12_lawLine_89 : decode cX12_lawLine 89 = .ok (.goto 4, 3) := by decide +kernel
theorem dX12_lawLine_92 : decode cX12_lawLine 92 = .ok (.iconst 0, 1) := by decide +kernel
theorem dX12_lawLine_93 : decode cX12_lawLine 93 = .ok (.istore_n 3, 1) := by decide +kernel
theorem dX12_lawLine_94 : decode cX12_lawLine 94 = .ok (.aload_n 0, 1) := by decide +kernel
theorem dX12_lawLine_95 : decode cX12_lawLine 95 = .ok (.getfield 25, 3) := by decide +kernel
theorem dX12_lawLine_98 : decode cX12_lawLine 98 = .ok (.iconst (-1), 1) := by decide +kernel
theorem dX12_lawLine_99 : decode cX12_lawLine 99 = .ok (.if_icmp .ne 7, 3) := by decide +kernel
theorem dX12_lawLine_102 : decode cX12_lawLine 102 = .ok (.iload_n 3, 1) := by decide +kernel
theorem dX12_lawLine_103 : decode cX12_lawLine 103 = .ok (.ifCond .ne 4, 3) := by decide +kernel
theorem dX12_lawLine_106 : decode cX12_lawLine 106 = .ok (.return_, 1) := by decide +kernel
theorem dX12_lawLine_107 : decode cX12_lawLine 107 = .ok (.aload_n 0, 1) := by decide +kernel
theorem dX12_lawLine_108 : decode cX12_lawLine 108 = .ok (.dup, 1) := by decide +kernel
theorem dX12_lawLine_109 : decode cX12_lawLine 109 = .ok (.getfield 237, 3) := by decide +kernel
theorem dX12_lawLine_112 : decode cX12_lawLine 112 = .ok (.iload_n 1, 1) := by decide +kernel
theorem dX12_lawLine_113 : decode cX12_lawLine 113 = .ok (.ifCond .ne 7, 3) := by decide +kernel
theorem dX12_lawLine_116 : decode cX12_lawLine 116 = .ok (.iload_n 2, 1) := by decide +kernel
theorem dX12_lawLine_117 : decode cX12_lawLine 117 = .ok (.goto 4, 3) := by decide +kernel
theorem dX12_lawLine_120 : decode cX12_lawLine 120 = .ok (.iconst 0, 1) := by decide +kernel
theorem dX12_lawLine_121 : decode cX12_lawLine 121 = .ok (.iadd, 1) := by decide +kernel
theorem dX12_lawLine_122 : decode cX12_lawLine 122 = .ok (.putfield 237, 3) := by decide +kernel
theorem dX12_lawLine_125 : decode cX12_lawLine 125 = .ok (.aload_n 0, 1) := by decide +kernel
theorem dX12_lawLine_126 : decode cX12_lawLine 126 = .ok (.dup, 1) := by decide +kernel
theorem dX12_lawLine_127 : decode cX12_lawLine 127 = .ok (.getfield 240, 3) := by decide +kernel
theorem dX12_lawLine_130 : decode cX12_lawLine 130 = .ok (.iload_n 1, 1) := by decide +kernel
theorem dX12_lawLine_131 : decode cX12_lawLine 131 = .ok (.iconst 1, 1) := by decide +kernel
theorem dX12_lawLine_132 : decode cX12_lawLine 132 = .ok (.if_icmp .ne 7, 3) := by decide +kernel
theorem dX12_lawLine_135 : decode cX12_lawLine 135 = .ok (.iload_n 2, 1) := by decide +kernel
theorem dX12_lawLine_136 : decode cX12_lawLine 136 = .ok (.goto 4, 3) := by decide +kernel
theorem dX12_lawLine_139 : decode cX12_lawLine 139 = .ok (.iconst 0, 1) := by decide +kernel
theorem dX12_lawLine_140 : decode cX12_lawLine 140 = .ok (.iadd, 1) := by decide +kernel
theorem dX12_lawLine_141 : decode cX12_lawLine 141 = .ok (.putfield 240, 3) := by decide +kernel
theorem dX12_lawLine_144 : decode cX12_lawLine 144 = .ok (.aload_n 0, 1) := by decide +kernel
theorem dX12_lawLine_145 : decode cX12_lawLine 145 = .ok (.dup, 1) := by decide +kernel
theorem dX12_lawLine_146 : decode cX12_lawLine 146 = .ok (.getfield 243, 3) := by decide +kernel
theorem dX12_lawLine_149 : decode cX12_lawLine 149 = .ok (.iload_n 1, 1) := by decide +kernel
theorem dX12_lawLine_150 : decode cX12_lawLine 150 = .ok (.iconst 2, 1) := by decide +kernel
theorem dX12_lawLine_151 : decode cX12_lawLine 151 = .ok (.if_icmp .ne 7, 3) := by decide +kernel
theorem dX12_lawLine_154 : decode cX12_lawLine 154 = .ok (.iload_n 2, 1) := by decide +kernel
theorem dX12_lawLine_155 : decode cX12_lawLine 155 = .ok (.goto 4, 3) := by decide +kernel
theorem dX12_lawLine_158 : decode cX12_lawLine 158 = .ok (.iconst 0, 1) := by decide +kernel
theorem dX12_lawLine_159 : decode cX12_lawLine 159 = .ok (.iadd, 1) := by decide +kernel
theorem dX12_lawLine_160 : decode cX12_lawLine 160 = .ok (.putfield 243, 3) := by decide +kernel
theorem dX12_lawLine_163 : decode cX12_lawLine 163 = .ok (.return_, 1) := by decide +kernel
theorem dX12_law_0 : decode cX12_law 0 = .ok (.aload_n 0, 1) := by decide +kernel
theorem dX12_law_1 : decode cX12_law 1 = .ok (.invokevirtual 180, 3) := by decide +kernel
theorem dX12_law_4 : decode cX12_law 4 = .ok (.aload_n 0, 1) := by decide +kernel
theorem dX12_law_5 : decode cX12_law 5 = .ok (.iconst 1, 1) := by decide +kernel
theorem dX12_law_6 : decode cX12_law 6 = .ok (.invokevirtual 183, 3) := by decide +kernel
theorem dX12_law_9 : decode cX12_law 9 = .ok (.istore_n 1, 1) := by decide +kernel
theorem dX12_law_10 : decode cX12_law 10 = .ok (.aload_n 0, 1) := by decide +kernel
theorem dX12_law_11 : decode cX12_law 11 = .ok (.aload_n 0, 1) := by decide +kernel
theorem dX12_law_12 : decode cX12_law 12 = .ok (.getfield 25, 3) := by decide +kernel
theorem dX12_law_15 : decode cX12_law 15 = .ok (.iconst (-1), 1) := by decide +kernel
theorem dX12_law_16 : decode cX12_law 16 = .ok (.if_icmp .eq 7, 3) := by decide +kernel
theorem dX12_law_19 : decode cX12_law 19 = .ok (.iconst 1, 1) := by decide +kernel
theorem dX12_law_20 : decode cX12_law 20 = .ok (.goto 4, 3) := by decide +kernel
theorem dX12_law_23 : decode cX12_law 23 = .ok (.iconst 0, 1) := by decide +kernel
theorem dX12_law_24 : decode cX12_law 24 = .ok (.putfield 57, 3) := by decide +kernel
theorem dX12_law_27 : decode cX12_law 27 = .ok (.aload_n 0, 1) := by decide +kernel
theorem dX12_law_28 : decode cX12_law 28 = .ok (.getfield 57, 3) := by decide +kernel
theorem dX12_law_31 : decode cX12_law 31 = .ok (.ifCond .le 5, 3) := by decide +kernel
theorem dX12_law_34 : decode cX12_law 34 = .ok (.iconst 0, 1) := by decide +kernel
theorem dX12_law_35 : decode cX12_law 35 = .ok (.ireturn, 1) := by decide +kernel
theorem dX12_law_36 : decode cX12_law 36 = .ok (.aload_n 0, 1) := by decide +kernel
theorem dX12_law_37 : decode cX12_law 37 = .ok (.getfield 7, 3) := by decide +kernel
theorem dX12_law_40 : decode cX12_law 40 = .ok (.iconst 1, 1) := by decide +kernel
theorem dX12_law_41 : decode cX12_law 41 = .ok (.iload_n 1, 1) := by decide +kernel
theorem dX12_law_42 : decode cX12_law 42 = .ok (.iastore, 1) := by decide +kernel
theorem dX12_law_43 : decode cX12_law 43 = .ok (.aload_n 0, 1) := by decide +kernel
theorem dX12_law_44 : decode cX12_law 44 = .ok (.getfield 7, 3) := by decide +kernel
theorem dX12_law_47 : decode cX12_law 47 = .ok (.iconst 2, 1) := by decide +kernel
theorem dX12_law_48 : decode cX12_law 48 = .ok (.aload_n 0, 1) := by decide +kernel
theorem dX12_law_49 : decode cX12_law 49 = .ok (.getfield 73, 3) := by decide +kernel
theorem dX12_law_52 : decode cX12_law 52 = .ok (.iastore, 1) := by decide +kernel
theorem dX12_law_53 : decode cX12_law 53 = .ok (.iconst 0, 1) := by decide +kernel
theorem dX12_law_54 : decode cX12_law 54 = .ok (.istore_n 2, 1) := by decide +kernel
theorem dX12_law_55 : decode cX12_law 55 = .ok (.iload_n 2, 1) := by decide +kernel
theorem dX12_law_56 : decode cX12_law 56 = .ok (.aload_n 0, 1) := by decide +kernel
theorem dX12_law_57 : decode cX12_law 57 = .ok (.getfield 73, 3) := by decide +kernel
theorem dX12_law_60 : decode cX12_law 60 = .ok (.if_icmp .ge 25, 3) := by decide +kernel
theorem dX12_law_63 : decode cX12_law 63 = .ok (.aload_n 0, 1) := by decide +kernel
theorem dX12_law_64 : decode cX12_law 64 = .ok (.getfield 7, 3) := by decide +kernel
theorem dX12_law_67 : decode cX12_law 67 = .ok (.sipush 456, 3) := by decide +kernel
theorem dX12_law_70 : decode cX12_law 70 = .ok (.iload_n 2, 1) := by decide +kernel
theorem dX12_law_71 : decode cX12_law 71 = .ok (.iadd, 1) := by decide +kernel
theorem dX12_law_72 : decode cX12_law 72 = .ok (.aload_n 0, 1) := by decide +kernel
theorem dX12_law_73 : decode cX12_law 73 = .ok (.getfield 22, 3) := by decide +kernel
theorem dX12_law_76 : decode cX12_law 76 = .ok (.iload_n 2, 1) := by decide +kernel
theorem dX12_law_77 : decode cX12_law 77 = .ok (.iaload, 1) := by decide +kernel
theorem dX12_law_78 : decode cX12_law 78 = .ok (.iastore, 1) := by decide +kernel
theorem dX12_law_79 : decode cX12_law 79 = .ok (.iinc 2 1, 3) := by decide +kernel
theorem dX12_law_82 : decode cX12_law 82 = .ok (.goto (-27), 3) := by decide +kernel
theorem dX12_law_85 : decode cX12_law 85 = .ok (.aload_n 0, 1) := by decide +kernel
theorem dX12_law_86 : decode cX12_law 86 = .ok (.iconst 0, 1) := by decide +kernel
theorem dX12_law_87 : decode cX12_law 87 = .ok (.putfield 190, 3) := by decide +kernel
theorem dX12_law_90 : decode cX12_law 90 = .ok (.iload_n 1, 1) := by decide +kernel
theorem dX12_law_91 : decode cX12_law 91 = .ok (.ireturn, 1) := by decide +kernel
theorem dX12_fault_0 : decode cX12_fault 0 = .ok (.aload_n 0, 1) := by decide +kernel
theorem dX12_fault_1 : decode cX12_fault 1 = .ok (.iconst 0, 1) := by decide +kernel
theorem dX12_fault_2 : decode cX12_fault 2 = .ok (.putfield 57, 3) := by decide +kernel
theorem dX12_fault_5 : decode cX12_fault 5 = .ok (.aload_n 0, 1) := by decide +kernel
theorem dX12_fault_6 : decode cX12_fault 6 = .ok (.getfield 25, 3) := by decide +kernel
theorem dX12_fault_9 : decode cX12_fault 9 = .ok (.ireturn, 1) := by decide +kernel
theorem dX12_markBy_0 : decode cX12_markBy 0 = .ok (.iconst 0, 1) := by decide +kernel
theorem dX12_markBy_1 : decode cX12_markBy 1 = .ok (.istore_n 3, 1) := by decide +kernel
theorem dX12_markBy_2 : decode cX12_markBy 2 = .ok (.iconst 0, 1) := by decide +kernel
theorem dX12_markBy_3 : decode cX12_markBy 3 = .ok (.istore 4, 2) := by decide +kernel
theorem dX12_markBy_5 : decode cX12_markBy 5 = .ok (.iload 4, 2) := by decide +kernel
theorem dX12_markBy_7 : decode cX12_markBy 7 = .ok (.aload_n 0, 1) := by decide +kernel
theorem dX12_markBy_8 : decode cX12_markBy 8 = .ok (.iload_n 1, 1) := by decide +kernel
theorem dX12_markBy_9 : decode cX12_markBy 9 = .ok (.bipush 6, 2) := by decide +kernel
theorem dX12_markBy_11 : decode cX12_markBy 11 = .ok (.invokevirtual 245, 3) := by decide +kernel
theorem dX12_markBy_14 : decode cX12_markBy 14 = .ok (.if_icmp .ge 42, 3) := by decide +kernel
theorem dX12_markBy_17 : decode cX12_markBy 17 = .ok (.iload_n 2, 1) := by decide +kernel
theorem dX12_markBy_18 : decode cX12_markBy 18 = .ok (.aload_n 0, 1) := by decide +kernel
theorem dX12_markBy_19 : decode cX12_markBy 19 = .ok (.iload_n 1, 1) := by decide +kernel
theorem dX12_markBy_20 : decode cX12_markBy 20 = .ok (.iload 4, 2) := by decide +kernel
theorem dX12_markBy_22 : decode cX12_markBy 22 = .ok (.invokevirtual 245, 3) := by decide +kernel
theorem dX12_markBy_25 : decode cX12_markBy 25 = .ok (.invokestatic 248, 3) := by decide +kernel
theorem dX12_markBy_28 : decode cX12_markBy 28 = .ok (.ifCond .eq 7, 3) := by decide +kernel
theorem dX12_markBy_31 : decode cX12_markBy 31 = .ok (.iload_n 3, 1) := by decide +kernel
theorem dX12_markBy_32 : decode cX12_markBy 32 = .ok (.goto 17, 3) := by decide +kernel
theorem dX12_markBy_35 : decode cX12_markBy 35 = .ok (.bipush 9, 2) := by decide +kernel
theorem dX12_markBy_37 : decode cX12_markBy 37 = .ok (.iload_n 3, 1) := by decide +kernel
theorem dX12_markBy_38 : decode cX12_markBy 38 = .ok (.imul, 1) := by decide +kernel
theorem dX12_markBy_39 : decode cX12_markBy 39 = .ok (.aload_n 0, 1) := by decide +kernel
theorem dX12_markBy_40 : decode cX12_markBy 40 = .ok (.iload_n 1, 1) := by decide +kernel
theorem dX12_markBy_41 : decode cX12_markBy 41 = .ok (.iload 4, 2) := by decide +kernel
theorem dX12_markBy_43 : decode cX12_markBy 43 = .ok (.invokevirtual 245, 3) := by decide +kernel
theorem dX12_markBy_46 : decode cX12_markBy 46 = .ok (.iadd, 1) := by decide +kernel
theorem dX12_markBy_47 : decode cX12_markBy 47 = .ok (.iconst 1, 1) := by decide +kernel
theorem dX12_markBy_48 : decode cX12_markBy 48 = .ok (.iadd, 1) := by decide +kernel
theorem dX12_markBy_49 : decode cX12_markBy 49 = .ok (.istore_n 3, 1) := by decide +kernel
theorem dX12_markBy_50 : decode cX12_markBy 50 = .ok (.iinc 4 1, 3) := by decide +kernel
theorem dX12_markBy_53 : decode cX12_markBy 53 = .ok (.goto (-48), 3) := by decide +kernel
theorem dX12_markBy_56 : decode cX12_markBy 56 = .ok (.iload_n 3, 1) := by decide +kernel
theorem dX12_markBy_57 : decode cX12_markBy 57 = .ok (.ireturn, 1) := by decide +kernel
theorem dX12_strokesBy_0 : decode cX12_strokesBy 0 = .ok (.iconst 0, 1) := by decide +kernel
theorem dX12_strokesBy_1 : decode cX12_strokesBy 1 = .ok (.istore_n 3, 1) := by decide +kernel
theorem dX12_strokesBy_2 : decode cX12_strokesBy 2 = .ok (.iconst 0, 1) := by decide +kernel
theorem dX12_strokesBy_3 : decode cX12_strokesBy 3 = .ok (.istore 4, 2) := by decide +kernel
theorem dX12_strokesBy_5 : decode cX12_strokesBy 5 = .ok (.iload 4, 2) := by decide +kernel
theorem dX12_strokesBy_7 : decode cX12_strokesBy 7 = .ok (.aload_n 0, 1) := by decide +kernel
theorem dX12_strokesBy_8 : decode cX12_strokesBy 8 = .ok (.iload_n 1, 1) := by decide +kernel
theorem dX12_strokesBy_9 : decode cX12_strokesBy 9 = .ok (.bipush 6, 2) := by decide +kernel
theorem dX12_strokesBy_11 : decode cX12_strokesBy 11 = .ok (.invokevirtual 245, 3) := by decide +kernel
theorem dX12_strokesBy_14 : decode cX12_strokesBy 14 = .ok (.if_icmp .ge 31, 3) := by decide +kernel
theorem dX12_strokesBy_17 : decode cX12_strokesBy 17 = .ok (.iload_n 3, 1) := by decide +kernel
theorem dX12_strokesBy_18 : decode cX12_strokesBy 18 = .ok (.iload_n 2, 1) := by decide +kernel
theorem dX12_strokesBy_19 : decode cX12_strokesBy 19 = .ok (.aload_n 0, 1) := by decide +kernel
theorem dX12_strokesBy_20 : decode cX12_strokesBy 20 = .ok (.iload_n 1, 1) := by decide +kernel
theorem dX12_strokesBy_21 : decode cX12_strokesBy 21 = .ok (.iload 4, 2) := by decide +kernel
theorem dX12_strokesBy_23 : decode cX12_strokesBy 23 = .ok (.invokevirtual 245, 3) := by decide +kernel
theorem dX12_strokesBy_26 : decode cX12_strokesBy 26 = .ok (.invokestatic 248, 3) := by decide +kernel
theorem dX12_strokesBy_29 : decode cX12_strokesBy 29 = .ok (.ifCond .eq 7, 3) := by decide +kernel
theorem dX12_strokesBy_32 : decode cX12_strokesBy 32 = .ok (.iconst 0, 1) := by decide +kernel
theorem dX12_strokesBy_33 : decode cX12_strokesBy 33 = .ok (.goto 4, 3) := by decide +kernel
theorem dX12_strokesBy_36 : decode cX12_strokesBy 36 = .ok (.iconst 1, 1) := by decide +kernel
theorem dX12_strokesBy_37 : decode cX12_strokesBy 37 = .ok (.iadd, 1) := by decide +kernel
theorem dX12_strokesBy_38 : decode cX12_strokesBy 38 = .ok (.istore_n 3, 1) := by decide +kernel
theorem dX12_strokesBy_39 : decode cX12_strokesBy 39 = .ok (.iinc 4 1, 3) := by decide +kernel
theorem dX12_strokesBy_42 : decode cX12_strokesBy 42 = .ok (.goto (-37), 3) := by decide +kernel
theorem dX12_strokesBy_45 : decode cX12_strokesBy 45 = .ok (.iload_n 3, 1) := by decide +kernel
theorem dX12_strokesBy_46 : decode cX12_strokesBy 46 = .ok (.ireturn, 1) := by decide +kernel
theorem dX12_likeBy_0 : decode cX12_likeBy 0 = .ok (.iconst 0, 1) := by decide +kernel
theorem dX12_likeBy_1 : decode cX12_likeBy 1 = .ok (.istore_n 3, 1) := by decide +kernel
theorem dX12_likeBy_2 : decode cX12_likeBy 2 = .ok (.iconst 0, 1) := by decide +kernel
theorem dX12_likeBy_3 : decode cX12_likeBy 3 = .ok (.istore 4, 2) := by decide +kernel
theorem dX12_likeBy_5 : decode cX12_likeBy 5 = .ok (.iload 4, 2) := by decide +kernel
theorem dX12_likeBy_7 : decode cX12_likeBy 7 = .ok (.aload_n 0, 1) := by decide +kernel
theorem dX12_likeBy_8 : decode cX12_likeBy 8 = .ok (.getfield 7, 3) := by decide +kernel
theorem dX12_likeBy_11 : decode cX12_likeBy 11 = .ok (.iconst 3, 1) := by decide +kernel
theorem dX12_likeBy_12 : decode cX12_likeBy 12 = .ok (.iaload, 1) := by decide +kernel
theorem dX12_likeBy_13 : decode cX12_likeBy 13 = .ok (.if_icmp .ge 36, 3) := by decide +kernel
theorem dX12_likeBy_16 : decode cX12_likeBy 16 = .ok (.iload_n 3, 1) := by decide +kernel
theorem dX12_likeBy_17 : decode cX12_likeBy 17 = .ok (.aload_n 0, 1) := by decide +kernel
theorem dX12_likeBy_18 : decode cX12_likeBy 18 = .ok (.iload 4, 2) := by decide +kernel
theorem dX12_likeBy_20 : decode cX12_likeBy 20 = .ok (.iload_n 2, 1) := by decide +kernel
theorem dX12_likeBy_21 : decode cX12_likeBy 21 = .ok (.invokevirtual 251, 3) := by decide +kernel
theorem dX12_likeBy_24 : decode cX12_likeBy 24 = .ok (.aload_n 0, 1) := by decide +kernel
theorem dX12_likeBy_25 : decode cX12_likeBy 25 = .ok (.iload_n 1, 1) := by decide +kernel
theorem dX12_likeBy_26 : decode cX12_likeBy 26 = .ok (.iload_n 2, 1) := by decide +kernel
theorem dX12_likeBy_27 : decode cX12_likeBy 27 = .ok (.invokevirtual 251, 3) := by decide +kernel
theorem dX12_likeBy_30 : decode cX12_likeBy 30 = .ok (.if_icmp .ne 10, 3) := by decide +kernel
theorem dX12_likeBy_33 : decode cX12_likeBy 33 = .ok (.iconst 1, 1) := by decide +kernel
theorem dX12_likeBy_34 : decode cX12_likeBy 34 = .ok (.iload 4, 2) := by decide +kernel
theorem dX12_likeBy_36 : decode cX12_likeBy 36 = .ok (.ishl, 1) := by decide +kernel
theorem dX12_likeBy_37 : decode cX12_likeBy 37 = .ok (.goto 4, 3) := by decide +kernel
theorem dX12_likeBy_40 : decode cX12_likeBy 40 = .ok (.iconst 0, 1) := by decide +kernel
theorem dX12_likeBy_41 : decode cX12_likeBy 41 = .ok (.ior, 1) := by decide +kernel
theorem dX12_likeBy_42 : decode cX12_likeBy 42 = .ok (.istore_n 3, 1) := by decide +kernel
theorem dX12_likeBy_43 : decode cX12_likeBy 43 = .ok (.iinc 4 1, 3) := by decide +kernel
theorem dX12_likeBy_46 : decode cX12_likeBy 46 = .ok (.goto (-41), 3) := by decide +kernel
theorem dX12_likeBy_49 : decode cX12_likeBy 49 = .ok (.iload_n 3, 1) := by decide +kernel
theorem dX12_likeBy_50 : decode cX12_likeBy 50 = .ok (.ireturn, 1) := by decide +kernel
theorem dX12_readBy_0 : decode cX12_readBy 0 = .ok (.aload_n 0, 1) := by decide +kernel
theorem dX12_readBy_1 : decode cX12_readBy 1 = .ok (.iload_n 1, 1) := by decide +kernel
theorem dX12_readBy_2 : decode cX12_readBy 2 = .ok (.iload_n 2, 1) := by decide +kernel
theorem dX12_readBy_3 : decode cX12_readBy 3 = .ok (.invokevirtual 254, 3) := by decide +kernel
theorem dX12_readBy_6 : decode cX12_readBy 6 = .ok (.istore_n 3, 1) := by decide +kernel
theorem dX12_readBy_7 : decode cX12_readBy 7 = .ok (.iconst (-1), 1) := by decide +kernel
theorem dX12_readBy_8 : decode cX12_readBy 8 = .ok (.istore 4, 2) := by decide +kernel
theorem dX12_readBy_10 : decode cX12_readBy 10 = .ok (.iconst 0, 1) := by decide +kernel
theorem dX12_readBy_11 : decode cX12_readBy 11 = .ok (.istore 5, 2) := by decide +kernel
theorem dX12_readBy_13 : decode cX12_readBy 13 = .ok (.iload 5, 2) := by decide +kernel
theorem dX12_readBy_15 : decode cX12_readBy 15 = .ok (.aload_n 0, 1) := by decide +kernel
theorem dX12_readBy_16 : decode cX12_readBy 16 = .ok (.getfield 7, 3) := by decide +kernel
theorem dX12_readBy_19 : decode cX12_readBy 19 = .ok (.iconst 3, 1) := by decide +kernel
theorem dX12_readBy_20 : decode cX12_readBy 20 = .ok (.iaload, 1) := by decide +kernel
theorem dX12_readBy_21 : decode cX12_readBy 21 = .ok (.if_icmp .ge 47, 3) := by decide +kernel
theorem dX12_readBy_24 : decode cX12_readBy 24 = .ok (.iload_n 3, 1) := by decide +kernel
theorem dX12_readBy_25 : decode cX12_readBy 25 = .ok (.iload 5, 2) := by decide +kernel
theorem dX12_readBy_27 : decode cX12_readBy 27 = .ok (.invokestatic 248, 3) := by decide +kernel
theorem dX12_readBy_30 : decode cX12_readBy 30 = .ok (.ifCond .eq 32, 3) := by decide +kernel
theorem dX12_readBy_33 : decode cX12_readBy 33 = .ok (.iload 4, 2) := by decide +kernel
theorem dX12_readBy_35 : decode cX12_readBy 35 = .ok (.iconst (-1), 1) := by decide +kernel
theorem dX12_readBy_36 : decode cX12_readBy 36 = .ok (.if_icmp .eq 22, 3) := by decide +kernel
theorem dX12_readBy_39 : decode cX12_readBy 39 = .ok (.aload_n 0, 1) := by decide +kernel
theorem dX12_readBy_40 : decode cX12_readBy 40 = .ok (.iload 5, 2) := by decide +kernel
theorem dX12_readBy_42 : decode cX12_readBy 42 = .ok (.bipush 7, 2) := by decide +kernel
theorem dX12_readBy_44 : decode cX12_readBy 44 = .ok (.invokevirtual 245, 3) := by decide +kernel
theorem dX12_readBy_47 : decode cX12_readBy 47 = .ok (.aload_n 0, 1) := by decide +kernel
theorem dX12_readBy_48 : decode cX12_readBy 48 = .ok (.iload 4, 2) := by decide +kernel
theorem dX12_readBy_50 : decode cX12_readBy 50 = .ok (.bipush 7, 2) := by decide +kernel
theorem dX12_readBy_52 : decode cX12_readBy 52 = .ok (.invokevirtual 245, 3) := by decide +kernel
theorem dX12_readBy_55 : decode cX12_readBy 55 = .ok (.if_icmp .le 7, 3) := by decide +kernel
theorem dX12_readBy_58 : decode cX12_readBy 58 = .ok (.iload 5, 2) := by decide +kernel
theorem dX12_readBy_60 : decode cX12_readBy 60 = .ok (.istore 4, 2) := by decide +kernel
theorem dX12_readBy_62 : decode cX12_readBy 62 = .ok (.iinc 5 1, 3) := by decide +kernel
theorem dX12_readBy_65 : decode cX12_readBy 65 = .ok (.goto (-52), 3) := by decide +kernel
theorem dX12_readBy_68 : decode cX12_readBy 68 = .ok (.iload 4, 2) := by decide +kernel
theorem dX12_readBy_70 : decode cX12_readBy 70 = .ok (.ireturn, 1) := by decide +kernel
theorem dX12_lostBy_0 : decode cX12_lostBy 0 = .ok (.iconst 0, 1) := by decide +kernel
theorem dX12_lostBy_1 : decode cX12_lostBy 1 = .ok (.istore_n 2, 1) := by decide +kernel
theorem dX12_lostBy_2 : decode cX12_lostBy 2 = .ok (.iconst 0, 1) := by decide +kernel
theorem dX12_lostBy_3 : decode cX12_lostBy 3 = .ok (.istore_n 3, 1) := by decide +kernel
theorem dX12_lostBy_4 : decode cX12_lostBy 4 = .ok (.iload_n 3, 1) := by decide +kernel
theorem dX12_lostBy_5 : decode cX12_lostBy 5 = .ok (.aload_n 0, 1) := by decide +kernel
theorem dX12_lostBy_6 : decode cX12_lostBy 6 = .ok (.getfield 7, 3) := by decide +kernel
theorem dX12_lostBy_9 : decode cX12_lostBy 9 = .ok (.iconst 3, 1) := by decide +kernel
theorem dX12_lostBy_10 : decode cX12_lostBy 10 = .ok (.iaload, 1) := by decide +kernel
theorem dX12_lostBy_11 : decode cX12_lostBy 11 = .ok (.if_icmp .ge 33, 3) := by decide +kernel
theorem dX12_lostBy_14 : decode cX12_lostBy 14 = .ok (.iload_n 2, 1) := by decide +kernel
theorem dX12_lostBy_15 : decode cX12_lostBy 15 = .ok (.aload_n 0, 1) := by decide +kernel
theorem dX12_lostBy_16 : decode cX12_lostBy 16 = .ok (.iload_n 3, 1) := by decide +kernel
theorem dX12_lostBy_17 : decode cX12_lostBy 17 = .ok (.iload_n 1, 1) := by decide +kernel
theorem dX12_lostBy_18 : decode cX12_lostBy 18 = .ok (.invokevirtual 257, 3) := by decide +kernel
theorem dX12_lostBy_21 : decode cX12_lostBy 21 = .ok (.iload_n 3, 1) := by decide +kernel
theorem dX12_lostBy_22 : decode cX12_lostBy 22 = .ok (.if_icmp .ne 7, 3) := by decide +kernel
theorem dX12_lostBy_25 : decode cX12_lostBy 25 = .ok (.iconst 0, 1) := by decide +kernel
theorem dX12_lostBy_26 : decode cX12_lostBy 26 = .ok (.goto 10, 3) := by decide +kernel
theorem dX12_lostBy_29 : decode cX12_lostBy 29 = .ok (.aload_n 0, 1) := by decide +kernel
theorem dX12_lostBy_30 : decode cX12_lostBy 30 = .ok (.iload_n 3, 1) := by decide +kernel
theorem dX12_lostBy_31 : decode cX12_lostBy 31 = .ok (.bipush 7, 2) := by decide +kernel
theorem dX12_lostBy_33 : decode cX12_lostBy 33 = .ok (.invokevirtual 245, 3) := by decide +kernel
theorem dX12_lostBy_36 : decode cX12_lostBy 36 = .ok (.iadd, 1) := by decide +kernel
theorem dX12_lostBy_37 : decode cX12_lostBy 37 = .ok (.istore_n 2, 1) := by decide +kernel
theorem dX12_lostBy_38 : decode cX12_lostBy 38 = .ok (.iinc 3 1, 3) := by decide +kernel
theorem dX12_lostBy_41 : decode cX12_lostBy 41 = .ok (.goto (-37), 3) := by decide +kernel
theorem dX12_lostBy_44 : decode cX12_lostBy 44 = .ok (.iload_n 2, 1) := by decide +kernel
theorem dX12_lostBy_45 : decode cX12_lostBy 45 = .ok (.ireturn, 1) := by decide +kernel
theorem dX12_savesBy_0 : decode cX12_savesBy 0 = .ok (.iconst 0, 1) := by decide +kernel
theorem dX12_savesBy_1 : decode cX12_savesBy 1 = .ok (.istore_n 2, 1) := by decide +kernel
theorem dX12_savesBy_2 : decode cX12_savesBy 2 = .ok (.iconst 0, 1) := by decide +kernel
theorem dX12_savesBy_3 : decode cX12_savesBy 3 = .ok (.istore_n 3, 1) := by decide +kernel
theorem dX12_savesBy_4 : decode cX12_savesBy 4 = .ok (.iload_n 3, 1) := by decide +kernel
theorem dX12_savesBy_5 : decode cX12_savesBy 5 = .ok (.aload_n 0, 1) := by decide +kernel
theorem dX12_savesBy_6 : decode cX12_savesBy 6 = .ok (.getfield 7, 3) := by decide +kernel
theorem dX12_savesBy_9 : decode cX12_savesBy 9 = .ok (.iconst 3, 1) := by decide +kernel
theorem dX12_savesBy_10 : decode cX12_savesBy 10 = .ok (.iaload, 1) := by decide +kernel
theorem dX12_savesBy_11 : decode cX12_savesBy 11 = .ok (.if_icmp .ge 34, 3) := by decide +kernel
theorem dX12_savesBy_14 : decode cX12_savesBy 14 = .ok (.iload_n 2, 1) := by decide +kernel
theorem dX12_savesBy_15 : decode cX12_savesBy 15 = .ok (.aload_n 0, 1) := by decide +kernel
theorem dX12_savesBy_16 : decode cX12_savesBy 16 = .ok (.iload_n 3, 1) := by decide +kernel
theorem dX12_savesBy_17 : decode cX12_savesBy 17 = .ok (.bipush 6, 2) := by decide +kernel
theorem dX12_savesBy_19 : decode cX12_savesBy 19 = .ok (.invokevirtual 245, 3) := by decide +kernel
theorem dX12_savesBy_22 : decode cX12_savesBy 22 = .ok (.aload_n 0, 1) := by decide +kernel
theorem dX12_savesBy_23 : decode cX12_savesBy 23 = .ok (.iload_n 3, 1) := by decide +kernel
theorem dX12_savesBy_24 : decode cX12_savesBy 24 = .ok (.iload_n 1, 1) := by decide +kernel
theorem dX12_savesBy_25 : decode cX12_savesBy 25 = .ok (.invokevirtual 260, 3) := by decide +kernel
theorem dX12_savesBy_28 : decode cX12_savesBy 28 = .ok (.isub, 1) := by decide +kernel
theorem dX12_savesBy_29 : decode cX12_savesBy 29 = .ok (.aload_n 0, 1) := by decide +kernel
theorem dX12_savesBy_30 : decode cX12_savesBy 30 = .ok (.iload_n 3, 1) := by decide +kernel
theorem dX12_savesBy_31 : decode cX12_savesBy 31 = .ok (.bipush 7, 2) := by decide +kernel
theorem dX12_savesBy_33 : decode cX12_savesBy 33 = .ok (.invokevirtual 245, 3) := by decide +kernel
theorem dX12_savesBy_36 : decode cX12_savesBy 36 = .ok (.imul, 1) := by decide +kernel
theorem dX12_savesBy_37 : decode cX12_savesBy 37 = .ok (.iadd, 1) := by decide +kernel
theorem dX12_savesBy_38 : decode cX12_savesBy 38 = .ok (.istore_n 2, 1) := by decide +kernel
theorem dX12_savesBy_39 : decode cX12_savesBy 39 = .ok (.iinc 3 1, 3) := by decide +kernel
theorem dX12_savesBy_42 : decode cX12_savesBy 42 = .ok (.goto (-38), 3) := by decide +kernel
theorem dX12_savesBy_45 : decode cX12_savesBy 45 = .ok (.iload_n 2, 1) := by decide +kernel
theorem dX12_savesBy_46 : decode cX12_savesBy 46 = .ok (.ireturn, 1) := by decide +kernel
theorem dX12_asks_0 : decode cX12_asks 0 = .ok (.iload_n 2, 1) := by decide +kernel
theorem dX12_asks_1 : decode cX12_asks 1 = .ok (.iconst (-1), 1) := by decide +kernel
theorem dX12_asks_2 : decode cX12_asks 2 = .ok (.if_icmp .ne 7, 3) := by decide +kernel
theorem dX12_asks_5 : decode cX12_asks 5 = .ok (.iconst 1, 1) := by decide +kernel
theorem dX12_asks_6 : decode cX12_asks 6 = .ok (.goto 4, 3) := by decide +kernel
theorem dX12_asks_9 : decode cX12_asks 9 = .ok (.iconst 0, 1) := by decide +kernel
theorem dX12_asks_10 : decode cX12_asks 10 = .ok (.istore_n 3, 1) := by decide +kernel
theorem dX12_asks_11 : decode cX12_asks 11 = .ok (.iload_n 3, 1) := by decide +kernel
theorem dX12_asks_12 : decode cX12_asks 12 = .ok (.ifCond .eq 7, 3) := by decide +kernel
theorem dX12_asks_15 : decode cX12_asks 15 = .ok (.iconst 0, 1) := by decide +kernel
theorem dX12_asks_16 : decode cX12_asks 16 = .ok (.goto 14, 3) := by decide +kernel
theorem dX12_asks_19 : decode cX12_asks 19 = .ok (.aload_n 0, 1) := by decide +kernel
theorem dX12_asks_20 : decode cX12_asks 20 = .ok (.iload_n 2, 1) := by decide +kernel
theorem dX12_asks_21 : decode cX12_asks 21 = .ok (.aload_n 0, 1) := by decide +kernel
theorem dX12_asks_22 : decode cX12_asks 22 = .ok (.iload_n 1, 1) := by decide +kernel
theorem dX12_asks_23 : decode cX12_asks 23 = .ok (.iconst 0, 1) := by decide +kernel
theorem dX12_asks_24 : decode cX12_asks 24 = .ok (.invokevirtual 263, 3) := by decide +kernel
theorem dX12_asks_27 : decode cX12_asks 27 = .ok (.invokevirtual 260, 3) := by decide +kernel
theorem dX12_asks_30 : decode cX12_asks 30 = .ok (.istore 4, 2) := by decide +kernel
theorem dX12_asks_32 : decode cX12_asks 32 = .ok (.aload_n 0, 1) := by decide +kernel
theorem dX12_asks_33 : decode cX12_asks 33 = .ok (.iload 4, 2) := by decide +kernel
theorem dX12_asks_35 : decode cX12_asks 35 = .ok (.putfield 237, 3) := by decide +kernel
theorem dX12_asks_38 : decode cX12_asks 38 = .ok (.aload_n 0, 1) := by decide +kernel
theorem dX12_asks_39 : decode cX12_asks 39 = .ok (.iconst 2, 1) := by decide +kernel
theorem dX12_asks_40 : decode cX12_asks 40 = .ok (.putfield 240, 3) := by decide +kernel
theorem dX12_asks_43 : decode cX12_asks 43 = .ok (.aload_n 0, 1) := by decide +kernel
theorem dX12_asks_44 : decode cX12_asks 44 = .ok (.aload_n 0, 1) := by decide +kernel
theorem dX12_asks_45 : decode cX12_asks 45 = .ok (.getfield 7, 3) := by decide +kernel
theorem dX12_asks_48 : decode cX12_asks 48 = .ok (.bipush 8, 2) := by decide +kernel
theorem dX12_asks_50 : decode cX12_asks 50 = .ok (.iaload, 1) := by decide +kernel
theorem dX12_asks_51 : decode cX12_asks 51 = .ok (.putfield 243, 3) := by decide +kernel
theorem dX12_asks_54 : decode cX12_asks 54 = .ok (.aload_n 0, 1) := by decide +kernel
theorem dX12_asks_55 : decode cX12_asks 55 = .ok (.getfield 29, 3) := by decide +kernel
theorem dX12_asks_58 : decode cX12_asks 58 = .ok (.iconst 0, 1) := by decide +kernel
theorem dX12_asks_59 : decode cX12_asks 59 = .ok (.iload_n 1, 1) := by decide +kernel
theorem dX12_asks_60 : decode cX12_asks 60 = .ok (.iastore, 1) := by decide +kernel
theorem dX12_asks_61 : decode cX12_asks 61 = .ok (.aload_n 0, 1) := by decide +kernel
theorem dX12_asks_62 : decode cX12_asks 62 = .ok (.getfield 29, 3) := by decide +kernel
theorem dX12_asks_65 : decode cX12_asks 65 = .ok (.iconst 1, 1) := by decide +kernel
theorem dX12_asks_66 : decode cX12_asks 66 = .ok (.iload_n 3, 1) := by decide +kernel
theorem dX12_asks_67 : decode cX12_asks 67 = .ok (.ifCond .eq 8, 3) := by decide +kernel
theorem dX12_asks_70 : decode cX12_asks 70 = .ok (.bipush 8, 2) := by decide +kernel
theorem dX12_asks_72 : decode cX12_asks 72 = .ok (.goto 4, 3) := by decide +kernel
theorem dX12_asks_75 : decode cX12_asks 75 = .ok (.iload_n 2, 1) := by decide +kernel
theorem dX12_asks_76 : decode cX12_asks 76 = .ok (.iastore, 1) := by decide +kernel
theorem dX12_asks_77 : decode cX12_asks 77 = .ok (.aload_n 0, 1) := by decide +kernel
theorem dX12_asks_78 : decode cX12_asks 78 = .ok (.getfield 29, 3) := by decide +kernel
theorem dX12_asks_81 : decode cX12_asks 81 = .ok (.iconst 2, 1) := by decide +kernel
theorem dX12_asks_82 : decode cX12_asks 82 = .ok (.iload 4, 2) := by decide +kernel
theorem dX12_asks_84 : decode cX12_asks 84 = .ok (.iastore, 1) := by decide +kernel
theorem dX12_asks_85 : decode cX12_asks 85 = .ok (.aload_n 0, 1) := by decide +kernel
theorem dX12_asks_86 : decode cX12_asks 86 = .ok (.getfield 29, 3) := by decide +kernel
theorem dX12_asks_89 : decode cX12_asks 89 = .ok (.iconst 3, 1) := by decide +kernel
theorem dX12_asks_90 : decode cX12_asks 90 = .ok (.iload_n 3, 1) := by decide +kernel
theorem dX12_asks_91 : decode cX12_asks 91 = .ok (.ifCond .eq 7, 3) := by decide +kernel
theorem dX12_asks_94 : decode cX12_asks 94 = .ok (.iconst 0, 1) := by decide +kernel
theorem dX12_asks_95 : decode cX12_asks 95 = .ok (.goto 10, 3) := by decide +kernel
theorem dX12_asks_98 : decode cX12_asks 98 = .ok (.aload_n 0, 1) := by decide +kernel
theorem dX12_asks_99 : decode cX12_asks 99 = .ok (.iload_n 2, 1) := by decide +kernel
theorem dX12_asks_100 : decode cX12_asks 100 = .ok (.bipush 6, 2) := by decide +kernel
theorem dX12_asks_102 : decode cX12_asks 102 = .ok (.invokevirtual 245, 3) := by decide +kernel
theorem dX12_asks_105 : decode cX12_asks 105 = .ok (.iastore, 1) := by decide +kernel
theorem dX12_asks_106 : decode cX12_asks 106 = .ok (.aload_n 0, 1) := by decide +kernel
theorem dX12_asks_107 : decode cX12_asks 107 = .ok (.getfield 29, 3) := by decide +kernel
theorem dX12_asks_110 : decode cX12_asks 110 = .ok (.iconst 4, 1) := by decide +kernel
theorem dX12_asks_111 : decode cX12_asks 111 = .ok (.aload_n 0, 1) := by decide +kernel
theorem dX12_asks_112 : decode cX12_asks 112 = .ok (.iload_n 1, 1) := by decide +kernel
theorem dX12_asks_113 : decode cX12_asks 113 = .ok (.iconst 1, 1) := by decide +kernel
theorem dX12_asks_114 : decode cX12_asks 114 = .ok (.invokevirtual 263, 3) := by decide +kernel
theorem dX12_asks_117 : decode cX12_asks 117 = .ok (.iastore, 1) := by decide +kernel
theorem dX12_asks_118 : decode cX12_asks 118 = .ok (.aload_n 0, 1) := by decide +kernel
theorem dX12_asks_119 : decode cX12_asks 119 = .ok (.getfield 29, 3) := by decide +kernel
theorem dX12_asks_122 : decode cX12_asks 122 = .ok (.iconst 5, 1) := by decide +kernel
theorem dX12_asks_123 : decode cX12_asks 123 = .ok (.aload_n 0, 1) := by decide +kernel
theorem dX12_asks_124 : decode cX12_asks 124 = .ok (.iload_n 1, 1) := by decide +kernel
theorem dX12_asks_125 : decode cX12_asks 125 = .ok (.iconst 2, 1) := by decide +kernel
theorem dX12_asks_126 : decode cX12_asks 126 = .ok (.invokevirtual 263, 3) := by decide +kernel
theorem dX12_asks_129 : decode cX12_asks 129 = .ok (.iastore, 1) := by decide +kernel
theorem dX12_asks_130 : decode cX12_asks 130 = .ok (.aload_n 0, 1) := by decide +kernel
theorem dX12_asks_131 : decode cX12_asks 131 = .ok (.getfield 29, 3) := by decide +kernel
theorem dX12_asks_134 : decode cX12_asks 134 = .ok (.bipush 6, 2) := by decide +kernel
theorem dX12_asks_136 : decode cX12_asks 136 = .ok (.aload_n 0, 1) := by decide +kernel
theorem dX12_asks_137 : decode cX12_asks 137 = .ok (.iload_n 1, 1) := by decide +kernel
theorem dX12_asks_138 : decode cX12_asks 138 = .ok (.iconst 3, 1) := by decide +kernel
theorem dX12_asks_139 : decode cX12_asks 139 = .ok (.invokevirtual 263, 3) := by decide +kernel
theorem dX12_asks_142 : decode cX12_asks 142 = .ok (.iastore, 1) := by decide +kernel
theorem dX12_asks_143 : decode cX12_asks 143 = .ok (.aload_n 0, 1) := by decide +kernel
theorem dX12_asks_144 : decode cX12_asks 144 = .ok (.iload_n 3, 1) := by decide +kernel
theorem dX12_asks_145 : decode cX12_asks 145 = .ok (.ifCond .ne 18, 3) := by decide +kernel
theorem dX12_asks_148 : decode cX12_asks 148 = .ok (.iload 4, 2) := by decide +kernel
theorem dX12_asks_150 : decode cX12_asks 150 = .ok (.aload_n 0, 1) := by decide +kernel
theorem dX12_asks_151 : decode cX12_asks 151 = .ok (.getfield 29, 3) := by decide +kernel
theorem dX12_asks_154 : decode cX12_asks 154 = .ok (.iconst 3, 1) := by decide +kernel
theorem dX12_asks_155 : decode cX12_asks 155 = .ok (.iaload, 1) := by decide +kernel
theorem dX12_asks_156 : decode cX12_asks 156 = .ok (.if_icmp .ne 7, 3) := by decide +kernel
theorem dX12_asks_159 : decode cX12_asks 159 = .ok (.iconst 1, 1) := by decide +kernel
theorem dX12_asks_160 : decode cX12_asks 160 = .ok (.goto 4, 3) := by decide +kernel
theorem dX12_asks_163 : decode cX12_asks 163 = .ok (.iconst 0, 1) := by decide +kernel
theorem dX12_asks_164 : decode cX12_asks 164 = .ok (.putfield 201, 3) := by decide +kernel
theorem dX12_asks_167 : decode cX12_asks 167 = .ok (.aload_n 0, 1) := by decide +kernel
theorem dX12_asks_168 : decode cX12_asks 168 = .ok (.iload_n 3, 1) := by decide +kernel
theorem dX12_asks_169 : decode cX12_asks 169 = .ok (.ifCond .ne 24, 3) := by decide +kernel
theorem dX12_asks_172 : decode cX12_asks 172 = .ok (.aload_n 0, 1) := by decide +kernel
theorem dX12_asks_173 : decode cX12_asks 173 = .ok (.iload_n 2, 1) := by decide +kernel
theorem dX12_asks_174 : decode cX12_asks 174 = .ok (.aload_n 0, 1) := by decide +kernel
theorem dX12_asks_175 : decode cX12_asks 175 = .ok (.iload_n 1, 1) := by decide +kernel
theorem dX12_asks_176 : decode cX12_asks 176 = .ok (.iconst 0, 1) := by decide +kernel
theorem dX12_asks_177 : decode cX12_asks 177 = .ok (.invokevirtual 263, 3) := by decide +kernel
theorem dX12_asks_180 : decode cX12_asks 180 = .ok (.invokevirtual 254, 3) := by decide +kernel
theorem dX12_asks_183 : decode cX12_asks 183 = .ok (.iconst 1, 1) := by decide +kernel
theorem dX12_asks_184 : decode cX12_asks 184 = .ok (.iload_n 2, 1) := by decide +kernel
theorem dX12_asks_185 : decode cX12_asks 185 = .ok (.ishl, 1) := by decide +kernel
theorem dX12_asks_186 : decode cX12_asks 186 = .ok (.if_icmp .ne 7, 3) := by decide +kernel
theorem dX12_asks_189 : decode cX12_asks 189 = .ok (.iconst 1, 1) := by decide +kernel
theorem dX12_asks_190 : decode cX12_asks 190 = .ok (.goto 4, 3) := by decide +kernel
theorem dX12_asks_193 : decode cX12_asks 193 = .ok (.iconst 0, 1) := by decide +kernel
theorem dX12_asks_194 : decode cX12_asks 194 = .ok (.putfield 207, 3) := by decide +kernel
theorem dX12_asks_197 : decode cX12_asks 197 = .ok (.aload_n 0, 1) := by decide +kernel
theorem dX12_asks_198 : decode cX12_asks 198 = .ok (.getfield 25, 3) := by decide +kernel
theorem dX12_asks_201 : decode cX12_asks 201 = .ok (.istore 5, 2) := by decide +kernel
theorem dX12_asks_203 : decode cX12_asks 203 = .ok (.aload_n 0, 1) := by decide +kernel
theorem dX12_asks_204 : decode cX12_asks 204 = .ok (.iconst (-1), 1) := by decide +kernel
theorem dX12_asks_205 : decode cX12_asks 205 = .ok (.putfield 25, 3) := by decide +kernel
theorem dX12_asks_208 : decode cX12_asks 208 = .ok (.aload_n 0, 1) := by decide +kernel
theorem dX12_asks_209 : decode cX12_asks 209 = .ok (.sipush 456, 3) := by decide +kernel
theorem dX12_asks_212 : decode cX12_asks 212 = .ok (.putfield 67, 3) := by decide +kernel
theorem dX12_asks_215 : decode cX12_asks 215 = .ok (.aload_n 0, 1) := by decide +kernel
theorem dX12_asks_216 : decode cX12_asks 216 = .ok (.aload_n 0, 1) := by decide +kernel
theorem dX12_asks_217 : decode cX12_asks 217 = .ok (.getfield 7, 3) := by decide +kernel
theorem dX12_asks_220 : decode cX12_asks 220 = .ok (.iconst 1, 1) := by decide +kernel
theorem dX12_asks_221 : decode cX12_asks 221 = .ok (.iaload, 1) := by decide +kernel
theorem dX12_asks_222 : decode cX12_asks 222 = .ok (.iconst 1, 1) := by decide +kernel
theorem dX12_asks_223 : decode cX12_asks 223 = .ok (.if_icmp .ge 7, 3) := by decide +kernel
theorem dX12_asks_226 : decode cX12_asks 226 = .ok (.iconst 0, 1) := by decide +kernel
theorem dX12_asks_227 : decode cX12_asks 227 = .ok (.goto 9, 3) := by decide +kernel
theorem dX12_asks_230 : decode cX12_asks 230 = .ok (.aload_n 0, 1) := by decide +kernel
theorem dX12_asks_231 : decode cX12_asks 231 = .ok (.getfield 7, 3) := by decide +kernel
theorem dX12_asks_234 : decode cX12_asks 234 = .ok (.iconst 2, 1) := by decide +kernel
theorem dX12_asks_235 : decode cX12_asks 235 = .ok (.iaload, 1) := by decide +kernel
theorem dX12_asks_236 : decode cX12_asks 236 = .ok (.putfield 73, 3) := by decide +kernel
theorem dX12_asks_239 : decode cX12_asks 239 = .ok (.aload_n 0, 1) := by decide +kernel
theorem dX12_asks_240 : decode cX12_asks 240 = .ok (.iconst 0, 1) := by decide +kernel
theorem dX12_asks_241 : decode cX12_asks 241 = .ok (.putfield 70, 3) := by decide +kernel
theorem dX12_asks_244 : decode cX12_asks 244 = .ok (.aload_n 0, 1) := by decide +kernel
theorem dX12_asks_245 : decode cX12_asks 245 = .ok (.iconst 0, 1) := by decide +kernel
theorem dX12_asks_246 : decode cX12_asks 246 = .ok (.putfield 164, 3) := by decide +kernel
theorem dX12_asks_249 : decode cX12_asks 249 = .ok (.aload_n 0, 1) := by decide +kernel
theorem dX12_asks_250 : decode cX12_asks 250 = .ok (.iconst 1, 1) := by decide +kernel
theorem dX12_asks_251 : decode cX12_asks 251 = .ok (.invokevirtual 183, 3) := by decide +kernel
theorem dX12_asks_254 : decode cX12_asks 254 = .ok (.istore 6, 2) := by decide +kernel
theorem dX12_asks_256 : decode cX12_asks 256 = .ok (.aload_n 0, 1) := by decide +kernel
theorem dX12_asks_257 : decode cX12_asks 257 = .ok (.iload 5, 2) := by decide +kernel
theorem dX12_asks_259 : decode cX12_asks 259 = .ok (.putfield 25, 3) := by decide +kernel
theorem dX12_asks_262 : decode cX12_asks 262 = .ok (.return_, 1) := by decide +kernel
theorem dX12_slipsOf_0 : decode cX12_slipsOf 0 = .ok (.aload_n 0, 1) := by decide +kernel
theorem dX12_slipsOf_1 : decode cX12_slipsOf 1 = .ok (.iload_n 1, 1) := by decide +kernel
theorem dX12_slipsOf_2 : decode cX12_slipsOf 2 = .ok (.iload_n 2, 1) := by decide +kernel
theorem dX12_slipsOf_3 : decode cX12_slipsOf 3 = .ok (.invokevirtual 266, 3) := by decide +kernel
theorem dX12_slipsOf_6 : decode cX12_slipsOf 6 = .ok (.iconst 0, 1) := by decide +kernel
theorem dX12_slipsOf_7 : decode cX12_slipsOf 7 = .ok (.bipush 100, 2) := by decide +kernel
theorem dX12_slipsOf_9 : decode cX12_slipsOf 9 = .ok (.aload_n 0, 1) := by decide +kernel
theorem dX12_slipsOf_10 : decode cX12_slipsOf 10 = .ok (.getfield 243, 3) := by decide +kernel
theorem dX12_slipsOf_13 : decode cX12_slipsOf 13 = .ok (.iconst 5, 1) := by decide +kernel
theorem dX12_slipsOf_14 : decode cX12_slipsOf 14 = .ok (.aload_n 0, 1) := by decide +kernel
theorem dX12_slipsOf_15 : decode cX12_slipsOf 15 = .ok (.iload_n 1, 1) := by decide +kernel
theorem dX12_slipsOf_16 : decode cX12_slipsOf 16 = .ok (.iconst 2, 1) := by decide +kernel
theorem dX12_slipsOf_17 : decode cX12_slipsOf 17 = .ok (.invokevirtual 263, 3) := by decide +kernel
theorem dX12_slipsOf_20 : decode cX12_slipsOf 20 = .ok (.imul, 1) := by decide +kernel
theorem dX12_slipsOf_21 : decode cX12_slipsOf 21 = .ok (.isub, 1) := by decide +kernel
theorem dX12_slipsOf_22 : decode cX12_slipsOf 22 = .ok (.invokestatic 270, 3) := by decide +kernel
theorem dX12_slipsOf_25 : decode cX12_slipsOf 25 = .ok (.invokestatic 273, 3) := by decide +kernel
theorem dX12_slipsOf_28 : decode cX12_slipsOf 28 = .ok (.ireturn, 1) := by decide +kernel
theorem dX12_doesKeep_0 : decode cX12_doesKeep 0 = .ok (.aload_n 0, 1) := by decide +kernel
theorem dX12_doesKeep_1 : decode cX12_doesKeep 1 = .ok (.iload_n 2, 1) := by decide +kernel
theorem dX12_doesKeep_2 : decode cX12_doesKeep 2 = .ok (.aload_n 0, 1) := by decide +kernel
theorem dX12_doesKeep_3 : decode cX12_doesKeep 3 = .ok (.iload_n 1, 1) := by decide +kernel
theorem dX12_doesKeep_4 : decode cX12_doesKeep 4 = .ok (.iconst 0, 1) := by decide +kernel
theorem dX12_doesKeep_5 : decode cX12_doesKeep 5 = .ok (.invokevirtual 263, 3) := by decide +kernel
theorem dX12_doesKeep_8 : decode cX12_doesKeep 8 = .ok (.invokevirtual 260, 3) := by decide +kernel
theorem dX12_doesKeep_11 : decode cX12_doesKeep 11 = .ok (.aload_n 0, 1) := by decide +kernel
theorem dX12_doesKeep_12 : decode cX12_doesKeep 12 = .ok (.iload_n 1, 1) := by decide +kernel
theorem dX12_doesKeep_13 : decode cX12_doesKeep 13 = .ok (.iconst 1, 1) := by decide +kernel
theorem dX12_doesKeep_14 : decode cX12_doesKeep 14 = .ok (.invokevirtual 263, 3) := by decide +kernel
theorem dX12_doesKeep_17 : decode cX12_doesKeep 17 = .ok (.aload_n 0, 1) := by decide +kernel
theorem dX12_doesKeep_18 : decode cX12_doesKeep 18 = .ok (.getfield 7, 3) := by decide +kernel
theorem dX12_doesKeep_21 : decode cX12_doesKeep 21 = .ok (.bipush 7, 2) := by decide +kernel
theorem dX12_doesKeep_23 : decode cX12_doesKeep 23 = .ok (.iaload, 1) := by decide +kernel
theorem dX12_doesKeep_24 : decode cX12_doesKeep 24 = .ok (.imul, 1) := by decide +kernel
theorem dX12_doesKeep_25 : decode cX12_doesKeep 25 = .ok (.aload_n 0, 1) := by decide +kernel
theorem dX12_doesKeep_26 : decode cX12_doesKeep 26 = .ok (.iload_n 1, 1) := by decide +kernel
theorem dX12_doesKeep_27 : decode cX12_doesKeep 27 = .ok (.iconst 3, 1) := by decide +kernel
theorem dX12_doesKeep_28 : decode cX12_doesKeep 28 = .ok (.invokevirtual 263, 3) := by decide +kernel
theorem dX12_doesKeep_31 : decode cX12_doesKeep 31 = .ok (.bipush 10, 2) := by decide +kernel
theorem dX12_doesKeep_33 : decode cX12_doesKeep 33 = .ok (.idiv, 1) := by decide +kernel
theorem dX12_doesKeep_34 : decode cX12_doesKeep 34 = .ok (.isub, 1) := by decide +kernel
theorem dX12_doesKeep_35 : decode cX12_doesKeep 35 = .ok (.if_icmp .gt 7, 3) := by decide +kernel
theorem dX12_doesKeep_38 : decode cX12_doesKeep 38 = .ok (.iconst 1, 1) := by decide +kernel
theorem dX12_doesKeep_39 : decode cX12_doesKeep 39 = .ok (.goto 4, 3) := by decide +kernel
theorem dX12_doesKeep_42 : decode cX12_doesKeep 42 = .ok (.iconst 0, 1) := by decide +kernel
theorem dX12_doesKeep_43 : decode cX12_doesKeep 43 = .ok (.ireturn, 1) := by decide +kernel
theorem dX12_draw_0 : decode cX12_draw 0 = .ok (.aload_n 0, 1) := by decide +kernel
theorem dX12_draw_1 : decode cX12_draw 1 = .ok (.getfield 7, 3) := by decide +kernel
theorem dX12_draw_4 : decode cX12_draw 4 = .ok (.bipush 11, 2) := by decide +kernel
theorem dX12_draw_6 : decode cX12_draw 6 = .ok (.ldc_w 276, 3) := by decide +kernel
theorem dX12_draw_9 : decode cX12_draw 9 = .ok (.aload_n 0, 1) := by decide +kernel
theorem dX12_draw_10 : decode cX12_draw 10 = .ok (.getfield 7, 3) := by decide +kernel
theorem dX12_draw_13 : decode cX12_draw 13 = .ok (.bipush 11, 2) := by decide +kernel
theorem dX12_draw_15 : decode cX12_draw 15 = .ok (.iaload, 1) := by decide +kernel
theorem dX12_draw_16 : decode cX12_draw 16 = .ok (.imul, 1) := by decide +kernel
theorem dX12_draw_17 : decode cX12_draw 17 = .ok (.sipush 12345, 3) := by decide +kernel
theorem dX12_draw_20 : decode cX12_draw 20 = .ok (.iadd, 1) := by decide +kernel
theorem dX12_draw_21 : decode cX12_draw 21 = .ok (.iastore, 1) := by decide +kernel
theorem dX12_draw_22 : decode cX12_draw 22 = .ok (.aload_n 0, 1) := by decide +kernel
theorem dX12_draw_23 : decode cX12_draw 23 = .ok (.getfield 7, 3) := by decide +kernel
theorem dX12_draw_26 : decode cX12_draw 26 = .ok (.bipush 11, 2) := by decide +kernel
theorem dX12_draw_28 : decode cX12_draw 28 = .ok (.iaload, 1) := by decide +kernel
theorem dX12_draw_29 : decode cX12_draw 29 = .ok (.bipush 16, 2) := by decide +kernel
theorem dX12_draw_31 : decode cX12_draw 31 = .ok (.iushr, 1) := by decide +kernel
theorem dX12_draw_32 : decode cX12_draw 32 = .ok (.sipush 32767, 3) := by decide +kernel
theorem dX12_draw_35 : decode cX12_draw 35 = .ok (.iand, 1) := by decide +kernel
theorem dX12_draw_36 : decode cX12_draw 36 = .ok (.iload_n 1, 1) := by decide +kernel
theorem dX12_draw_37 : decode cX12_draw 37 = .ok (.irem, 1) := by decide +kernel
theorem dX12_draw_38 : decode cX12_draw 38 = .ok (.ireturn, 1) := by decide +kernel
theorem dX12_logs_0 : decode cX12_logs 0 = .ok (.sipush 239, 3) := by decide +kernel
theorem dX12_logs_3 : decode cX12_logs 3 = .ok (.istore 4, 2) := by decide +kernel
theorem dX12_logs_5 : decode cX12_logs 5 = .ok (.iload 4, 2) := by decide +kernel
theorem dX12_logs_7 : decode cX12_logs 7 = .ok (.iconst 4, 1) := by decide +kernel
theorem dX12_logs_8 : decode cX12_logs 8 = .ok (.if_icmp .lt 33, 3) := by decide +kernel
theorem dX12_logs_11 : decode cX12_logs 11 = .ok (.aload_n 0, 1) := by decide +kernel
theorem dX12_logs_12 : decode cX12_logs 12 = .ok (.getfield 7, 3) := by decide +kernel
theorem dX12_logs_15 : decode cX12_logs 15 = .ok (.sipush 216, 3) := by decide +kernel
theorem dX12_logs_18 : decode cX12_logs 18 = .ok (.iload 4, 2) := by decide +kernel
theorem dX12_logs_20 : decode cX12_logs 20 = .ok (.iadd, 1) := by decide +kernel
theorem dX12_logs_21 : decode cX12_logs 21 = .ok (.aload_n 0, 1) := by decide +kernel
theorem dX12_logs_22 : decode cX12_logs 22 = .ok (.getfield 7, 3) := by decide +kernel
theorem dX12_logs_25 : decode cX12_logs 25 = .ok (.sipush 216, 3) := by decide +kernel
theorem dX12_logs_28 : decode cX12_logs 28 = .ok (.iload 4, 2) := by decide +kernel
theorem dX12_logs_30 : decode cX12_logs 30 = .ok (.iadd, 1) := by decide +kernel
theorem dX12_logs_31 : decode cX12_logs 31 = .ok (.iconst 4, 1) := by decide +kernel
theorem dX12_logs_32 : decode cX12_logs 32 = .ok (.isub, 1) := by decide +kernel
theorem dX12_logs_33 : decode cX12_logs 33 = .ok (.iaload, 1) := by decide +kernel
theorem dX12_logs_34 : decode cX12_logs 34 = .ok (.iastore, 1) := by decide +kernel
theorem dX12_logs_35 : decode cX12_logs 35 = .ok (.iinc 4 (-1), 3) := by decide +kernel
theorem dX12_logs_38 : decode cX12_logs 38 = .ok (.goto (-33), 3) := by decide +kernel
theorem dX12_logs_41 : decode cX12_logs 41 = .ok (.aload_n 0, 1) := by decide +kernel
theorem dX12_logs_42 : decode cX12_logs 42 = .ok (.getfield 7, 3) := by decide +kernel
theorem dX12_logs_45 : decode cX12_logs 45 = .ok (.sipush 216, 3) := by decide +kernel
theorem dX12_logs_48 : decode cX12_logs 48 = .ok (.aload_n 0, 1) := by decide +kernel
theorem dX12_logs_49 : decode cX12_logs 49 = .ok (.getfield 7, 3) := by decide +kernel
theorem dX12_logs_52 : decode cX12_logs 52 = .ok (.bipush 9, 2) := by decide +kernel
theorem dX12_logs_54 : decode cX12_logs 54 = .ok (.iaload, 1) := by decide +kernel
theorem dX12_logs_55 : decode cX12_logs 55 = .ok (.iastore, 1) := by decide +kernel
theorem dX12_logs_56 : decode cX12_logs 56 = .ok (.aload_n 0, 1) := by decide +kernel
theorem dX12_logs_57 : decode cX12_logs 57 = .ok (.getfield 7, 3) := by decide +kernel
theorem dX12_logs_60 : decode cX12_logs 60 = .ok (.sipush 217, 3) := by decide +kernel
theorem dX12_logs_63 : decode cX12_logs 63 = .ok (.iload_n 1, 1) := by decide +kernel
theorem dX12_logs_64 : decode cX12_logs 64 = .ok (.iastore, 1) := by decide +kernel
theorem dX12_logs_65 : decode cX12_logs 65 = .ok (.aload_n 0, 1) := by decide +kernel
theorem dX12_logs_66 : decode cX12_logs 66 = .ok (.getfield 7, 3) := by decide +kernel
theorem dX12_logs_69 : decode cX12_logs 69 = .ok (.sipush 218, 3) := by decide +kernel
theorem dX12_logs_72 : decode cX12_logs 72 = .ok (.iload_n 2, 1) := by decide +kernel
theorem dX12_logs_73 : decode cX12_logs 73 = .ok (.iastore, 1) := by decide +kernel
theorem dX12_logs_74 : decode cX12_logs 74 = .ok (.aload_n 0, 1) := by decide +kernel
theorem dX12_logs_75 : decode cX12_logs 75 = .ok (.getfield 7, 3) := by decide +kernel
theorem dX12_logs_78 : decode cX12_logs 78 = .ok (.sipush 219, 3) := by decide +kernel
theorem dX12_logs_81 : decode cX12_logs 81 = .ok (.iload_n 3, 1) := by decide +kernel
theorem dX12_logs_82 : decode cX12_logs 82 = .ok (.iastore, 1) := by decide +kernel
theorem dX12_logs_83 : decode cX12_logs 83 = .ok (.aload_n 0, 1) := by decide +kernel
theorem dX12_logs_84 : decode cX12_logs 84 = .ok (.getfield 7, 3) := by decide +kernel
theorem dX12_logs_87 : decode cX12_logs 87 = .ok (.bipush 10, 2) := by decide +kernel
theorem dX12_logs_89 : decode cX12_logs 89 = .ok (.bipush 60, 2) := by decide +kernel
theorem dX12_logs_91 : decode cX12_logs 91 = .ok (.aload_n 0, 1) := by decide +kernel
theorem dX12_logs_92 : decode cX12_logs 92 = .ok (.getfield 7, 3) := by decide +kernel
theorem dX12_logs_95 : decode cX12_logs 95 = .ok (.bipush 10, 2) := by decide +kernel
theorem dX12_logs_97 : decode cX12_logs 97 = .ok (.iaload, 1) := by decide +kernel
theorem dX12_logs_98 : decode cX12_logs 98 = .ok (.iconst 1, 1) := by decide +kernel
theorem dX12_logs_99 : decode cX12_logs 99 = .ok (.iadd, 1) := by decide +kernel
theorem dX12_logs_100 : decode cX12_logs 100 = .ok (.invokestatic 270, 3) := by decide +kernel
theorem dX12_logs_103 : decode cX12_logs 103 = .ok (.iastore, 1) := by decide +kernel
theorem dX12_logs_104 : decode cX12_logs 104 = .ok (.return_, 1) := by decide +kernel
theorem dX12_easesOff_0 : decode cX12_easesOff 0 = .ok (.aload_n 0, 1) := by decide +kernel
theorem dX12_easesOff_1 : decode cX12_easesOff 1 = .ok (.iload_n 1, 1) := by decide +kernel
theorem dX12_easesOff_2 : decode cX12_easesOff 2 = .ok (.iload_n 2, 1) := by decide +kernel
theorem dX12_easesOff_3 : decode cX12_easesOff 3 = .ok (.invokevirtual 266, 3) := by decide +kernel
theorem dX12_easesOff_6 : decode cX12_easesOff 6 = .ok (.aload_n 0, 1) := by decide +kernel
theorem dX12_easesOff_7 : decode cX12_easesOff 7 = .ok (.iload_n 1, 1) := by decide +kernel
theorem dX12_easesOff_8 : decode cX12_easesOff 8 = .ok (.iconst 3, 1) := by decide +kernel
theorem dX12_easesOff_9 : decode cX12_easesOff 9 = .ok (.iconst 0, 1) := by decide +kernel
theorem dX12_easesOff_10 : decode cX12_easesOff 10 = .ok (.aload_n 0, 1) := by decide +kernel
theorem dX12_easesOff_11 : decode cX12_easesOff 11 = .ok (.iload_n 1, 1) := by decide +kernel
theorem dX12_easesOff_12 : decode cX12_easesOff 12 = .ok (.iconst 3, 1) := by decide +kernel
theorem dX12_easesOff_13 : decode cX12_easesOff 13 = .ok (.invokevirtual 263, 3) := by decide +kernel
theorem dX12_easesOff_16 : decode cX12_easesOff 16 = .ok (.aload_n 0, 1) := by decide +kernel
theorem dX12_easesOff_17 : decode cX12_easesOff 17 = .ok (.getfield 240, 3) := by decide +kernel
theorem dX12_easesOff_20 : decode cX12_easesOff 20 = .ok (.isub, 1) := by decide +kernel
theorem dX12_easesOff_21 : decode cX12_easesOff 21 = .ok (.invokestatic 273, 3) := by decide +kernel
theorem dX12_easesOff_24 : decode cX12_easesOff 24 = .ok (.invokevirtual 132, 3) := by decide +kernel
theorem dX12_easesOff_27 : decode cX12_easesOff 27 = .ok (.return_, 1) := by decide +kernel
theorem dX12_writes_0 : decode cX12_writes 0 = .ok (.iconst 0, 1) := by decide +kernel
theorem dX12_writes_1 : decode cX12_writes 1 = .ok (.istore 4, 2) := by decide +kernel
theorem dX12_writes_3 : decode cX12_writes 3 = .ok (.aload_n 0, 1) := by decide +kernel
theorem dX12_writes_4 : decode cX12_writes 4 = .ok (.iload_n 1, 1) := by decide +kernel
theorem dX12_writes_5 : decode cX12_writes 5 = .ok (.iload_n 2, 1) := by decide +kernel
theorem dX12_writes_6 : decode cX12_writes 6 = .ok (.invokevirtual 277, 3) := by decide +kernel
theorem dX12_writes_9 : decode cX12_writes 9 = .ok (.ifCond .eq 58, 3) := by decide +kernel
theorem dX12_writes_12 : decode cX12_writes 12 = .ok (.aload_n 0, 1) := by decide +kernel
theorem dX12_writes_13 : decode cX12_writes 13 = .ok (.iload_n 1, 1) := by decide +kernel
theorem dX12_writes_14 : decode cX12_writes 14 = .ok (.iload_n 2, 1) := by decide +kernel
theorem dX12_writes_15 : decode cX12_writes 15 = .ok (.invokevirtual 280, 3) := by decide +kernel
theorem dX12_writes_18 : decode cX12_writes 18 = .ok (.istore 5, 2) := by decide +kernel
theorem dX12_writes_20 : decode cX12_writes 20 = .ok (.iload_n 3, 1) := by decide +kernel
theorem dX12_writes_21 : decode cX12_writes 21 = .ok (.ifCond .eq 18, 3) := by decide +kernel
theorem dX12_writes_24 : decode cX12_writes 24 = .ok (.aload_n 0, 1) := by decide +kernel
theorem dX12_writes_25 : decode cX12_writes 25 = .ok (.bipush 100, 2) := by decide +kernel
theorem dX12_writes_27 : decode cX12_writes 27 = .ok (.invokevirtual 283, 3) := by decide +kernel
theorem dX12_writes_30 : decode cX12_writes 30 = .ok (.iload 5, 2) := by decide +kernel
theorem dX12_writes_32 : decode cX12_writes 32 = .ok (.if_icmp .ge 7, 3) := by decide +kernel
theorem dX12_writes_35 : decode cX12_writes 35 = .ok (.iconst 2, 1) := by decide +kernel
theorem dX12_writes_36 : decode cX12_writes 36 = .ok (.goto 4, 3) := by decide +kernel
theorem dX12_writes_39 : decode cX12_writes 39 = .ok (.iconst 1, 1) := by decide +kernel
theorem dX12_writes_40 : decode cX12_writes 40 = .ok (.istore 4, 2) := by decide +kernel
theorem dX12_writes_42 : decode cX12_writes 42 = .ok (.aload_n 0, 1) := by decide +kernel
theorem dX12_writes_43 : decode cX12_writes 43 = .ok (.iload_n 1, 1) := by decide +kernel
theorem dX12_writes_44 : decode cX12_writes 44 = .ok (.iconst 3, 1) := by decide +kernel
theorem dX12_writes_45 : decode cX12_writes 45 = .ok (.bipush 99, 2) := by decide +kernel
theorem dX12_writes_47 : decode cX12_writes 47 = .ok (.aload_n 0, 1) := by decide +kernel
theorem dX12_writes_48 : decode cX12_writes 48 = .ok (.iload_n 1, 1) := by decide +kernel
theorem dX12_writes_49 : decode cX12_writes 49 = .ok (.iconst 3, 1) := by decide +kernel
theorem dX12_writes_50 : decode cX12_writes 50 = .ok (.invokevirtual 263, 3) := by decide +kernel
theorem dX12_writes_53 : decode cX12_writes 53 = .ok (.aload_n 0, 1) := by decide +kernel
theorem dX12_writes_54 : decode cX12_writes 54 = .ok (.getfield 237, 3) := by decide +kernel
theorem dX12_writes_57 : decode cX12_writes 57 = .ok (.iadd, 1) := by decide +kernel
theorem dX12_writes_58 : decode cX12_writes 58 = .ok (.invokestatic 270, 3) := by decide +kernel
theorem dX12_writes_61 : decode cX12_writes 61 = .ok (.invokevirtual 132, 3) := by decide +kernel
theorem dX12_writes_64 : decode cX12_writes 64 = .ok (.goto 9, 3) := by decide +kernel
theorem dX12_writes_67 : decode cX12_writes 67 = .ok (.aload_n 0, 1) := by decide +kernel
theorem dX12_writes_68 : decode cX12_writes 68 = .ok (.iload_n 1, 1) := by decide +kernel
theorem dX12_writes_69 : decode cX12_writes 69 = .ok (.iload_n 2, 1) := by decide +kernel
theorem dX12_writes_70 : decode cX12_writes 70 = .ok (.invokevirtual 286, 3) := by decide +kernel
theorem dX12_writes_73 : decode cX12_writes 73 = .ok (.aload_n 0, 1) := by decide +kernel
theorem dX12_writes_74 : decode cX12_writes 74 = .ok (.getfield 7, 3) := by decide +kernel
theorem dX12_writes_77 : decode cX12_writes 77 = .ok (.bipush 116, 2) := by decide +kernel
theorem dX12_writes_79 : decode cX12_writes 79 = .ok (.bipush 20, 2) := by decide +kernel
theorem dX12_writes_81 : decode cX12_writes 81 = .ok (.iload_n 1, 1) := by decide +kernel
theorem dX12_writes_82 : decode cX12_writes 82 = .ok (.imul, 1) := by decide +kernel
theorem dX12_writes_83 : decode cX12_writes 83 = .ok (.iadd, 1) := by decide +kernel
theorem dX12_writes_84 : decode cX12_writes 84 = .ok (.aload_n 0, 1) := by decide +kernel
theorem dX12_writes_85 : decode cX12_writes 85 = .ok (.getfield 7, 3) := by decide +kernel
theorem dX12_writes_88 : decode cX12_writes 88 = .ok (.bipush 6, 2) := by decide +kernel
theorem dX12_writes_90 : decode cX12_writes 90 = .ok (.iaload, 1) := by decide +kernel
theorem dX12_writes_91 : decode cX12_writes 91 = .ok (.iadd, 1) := by decide +kernel
theorem dX12_writes_92 : decode cX12_writes 92 = .ok (.iload 4, 2) := by decide +kernel
theorem dX12_writes_94 : decode cX12_writes 94 = .ok (.iastore, 1) := by decide +kernel
theorem dX12_writes_95 : decode cX12_writes 95 = .ok (.aload_n 0, 1) := by decide +kernel
theorem dX12_writes_96 : decode cX12_writes 96 = .ok (.iload_n 1, 1) := by decide +kernel
theorem dX12_writes_97 : decode cX12_writes 97 = .ok (.iload_n 2, 1) := by decide +kernel
theorem dX12_writes_98 : decode cX12_writes 98 = .ok (.iload 4, 2) := by decide +kernel
theorem dX12_writes_100 : decode cX12_writes 100 = .ok (.invokevirtual 289, 3) := by decide +kernel
theorem dX12_writes_103 : decode cX12_writes 103 = .ok (.return_, 1) := by decide +kernel
theorem dX12_passes_0 : decode cX12_passes 0 = .ok (.iconst 0, 1) := by decide +kernel
theorem dX12_passes_1 : decode cX12_passes 1 = .ok (.istore_n 2, 1) := by decide +kernel
theorem dX12_passes_2 : decode cX12_passes 2 = .ok (.aload_n 0, 1) := by decide +kernel
theorem dX12_passes_3 : decode cX12_passes 3 = .ok (.getfield 7, 3) := by decide +kernel
theorem dX12_passes_6 : decode cX12_passes 6 = .ok (.bipush 6, 2) := by decide +kernel
theorem dX12_passes_8 : decode cX12_passes 8 = .ok (.iaload, 1) := by decide +kernel
theorem dX12_passes_9 : decode cX12_passes 9 = .ok (.aload_n 0, 1) := by decide +kernel
theorem dX12_passes_10 : decode cX12_passes 10 = .ok (.getfield 7, 3) := by decide +kernel
theorem dX12_passes_13 : decode cX12_passes 13 = .ok (.iconst 5, 1) := by decide +kernel
theorem dX12_passes_14 : decode cX12_passes 14 = .ok (.iaload, 1) := by decide +kernel
theorem dX12_passes_15 : decode cX12_passes 15 = .ok (.if_icmp .ge 58, 3) := by decide +kernel
theorem dX12_passes_18 : decode cX12_passes 18 = .ok (.iconst 0, 1) := by decide +kernel
theorem dX12_passes_19 : decode cX12_passes 19 = .ok (.istore_n 3, 1) := by decide +kernel
theorem dX12_passes_20 : decode cX12_passes 20 = .ok (.iload_n 3, 1) := by decide +kernel
theorem dX12_passes_21 : decode cX12_passes 21 = .ok (.aload_n 0, 1) := by decide +kernel
theorem dX12_passes_22 : decode cX12_passes 22 = .ok (.getfield 7, 3) := by decide +kernel
theorem dX12_passes_25 : decode cX12_passes 25 = .ok (.iconst 4, 1) := by decide +kernel
theorem dX12_passes_26 : decode cX12_passes 26 = .ok (.iaload, 1) := by decide +kernel
theorem dX12_passes_27 : decode cX12_passes 27 = .ok (.if_icmp .ge 30, 3) := by decide +kernel
theorem dX12_passes_30 : decode cX12_passes 30 = .ok (.aload_n 0, 1) := by decide +kernel
theorem dX12_passes_31 : decode cX12_passes 31 = .ok (.iload_n 3, 1) := by decide +kernel
theorem dX12_passes_32 : decode cX12_passes 32 = .ok (.aload_n 0, 1) := by decide +kernel
theorem dX12_passes_33 : decode cX12_passes 33 = .ok (.getfield 7, 3) := by decide +kernel
theorem dX12_passes_36 : decode cX12_passes 36 = .ok (.bipush 76, 2) := by decide +kernel
theorem dX12_passes_38 : decode cX12_passes 38 = .ok (.aload_n 0, 1) := by decide +kernel
theorem dX12_passes_39 : decode cX12_passes 39 = .ok (.getfield 7, 3) := by decide +kernel
theorem dX12_passes_42 : decode cX12_passes 42 = .ok (.bipush 6, 2) := by decide +kernel
theorem dX12_passes_44 : decode cX12_passes 44 = .ok (.iaload, 1) := by decide +kernel
theorem dX12_passes_45 : decode cX12_passes 45 = .ok (.iadd, 1) := by decide +kernel
theorem dX12_passes_46 : decode cX12_passes 46 = .ok (.iaload, 1) := by decide +kernel
theorem dX12_passes_47 : decode cX12_passes 47 = .ok (.iload_n 1, 1) := by decide +kernel
theorem dX12_passes_48 : decode cX12_passes 48 = .ok (.invokevirtual 292, 3) := by decide +kernel
theorem dX12_passes_51 : decode cX12_passes 51 = .ok (.iinc 3 1, 3) := by decide +kernel
theorem dX12_passes_54 : decode cX12_passes 54 = .ok (.goto (-34), 3) := by decide +kernel
theorem dX12_passes_57 : decode cX12_passes 57 = .ok (.aload_n 0, 1) := by decide +kernel
theorem dX12_passes_58 : decode cX12_passes 58 = .ok (.getfield 7, 3) := by decide +kernel
theorem dX12_passes_61 : decode cX12_passes 61 = .ok (.bipush 6, 2) := by decide +kernel
theorem dX12_passes_63 : decode cX12_passes 63 = .ok (.dup2, 1) := by decide +kernel
theorem dX12_passes_64 : decode cX12_passes 64 = .ok (.iaload, 1) := by decide +kernel
theorem dX12_passes_65 : decode cX12_passes 65 = .ok (.iconst 1, 1) := by decide +kernel
theorem dX12_passes_66 : decode cX12_passes 66 = .ok (.iadd, 1) := by decide +kernel
theorem dX12_passes_67 : decode cX12_passes 67 = .ok (.iastore, 1) := by decide +kernel
theorem dX12_passes_68 : decode cX12_passes 68 = .ok (.iconst 1, 1) := by decide +kernel
theorem dX12_passes_69 : decode cX12_passes 69 = .ok (.istore_n 2, 1) := by decide +kernel
theorem dX12_passes_70 : decode cX12_passes 70 = .ok (.goto 27, 3) := by decide +kernel
theorem dX12_passes_73 : decode cX12_passes 73 = .ok (.iconst 0, 1) := by decide +kernel
theorem dX12_passes_74 : decode cX12_passes 74 = .ok (.istore_n 3, 1) := by decide +kernel
theorem dX12_passes_75 : decode cX12_passes 75 = .ok (.iload_n 3, 1) := by decide +kernel
theorem dX12_passes_76 : decode cX12_passes 76 = .ok (.aload_n 0, 1) := by decide +kernel
theorem dX12_passes_77 : decode cX12_passes 77 = .ok (.getfield 7, 3) := by decide +kernel
theorem dX12_passes_80 : decode cX12_passes 80 = .ok (.iconst 4, 1) := by decide +kernel
theorem dX12_passes_81 : decode cX12_passes 81 = .ok (.iaload, 1) := by decide +kernel
theorem dX12_passes_82 : decode cX12_passes 82 = .ok (.if_icmp .ge 15, 3) := by decide +kernel
theorem dX12_passes_85 : decode cX12_passes 85 = .ok (.aload_n 0, 1) := by decide +kernel
theorem dX12_passes_86 : decode cX12_passes 86 = .ok (.iload_n 3, 1) := by decide +kernel
theorem dX12_passes_87 : decode cX12_passes 87 = .ok (.iconst (-1), 1) := by decide +kernel
theorem dX12_passes_88 : decode cX12_passes 88 = .ok (.invokevirtual 286, 3) := by decide +kernel
theorem dX12_passes_91 : decode cX12_passes 91 = .ok (.iinc 3 1, 3) := by decide +kernel
theorem dX12_passes_94 : decode cX12_passes 94 = .ok (.goto (-19), 3) := by decide +kernel
theorem dX12_passes_97 : decode cX12_passes 97 = .ok (.aload_n 0, 1) := by decide +kernel
theorem dX12_passes_98 : decode cX12_passes 98 = .ok (.getfield 7, 3) := by decide +kernel
theorem dX12_passes_101 : decode cX12_passes 101 = .ok (.bipush 9, 2) := by decide +kernel
theorem dX12_passes_103 : decode cX12_passes 103 = .ok (.sipush 9999, 3) := by decide +kernel
theorem dX12_passes_106 : decode cX12_passes 106 = .ok (.aload_n 0, 1) := by decide +kernel
theorem dX12_passes_107 : decode cX12_passes 107 = .ok (.getfield 7, 3) := by decide +kernel
theorem dX12_passes_110 : decode cX12_passes 110 = .ok (.bipush 9, 2) := by decide +kernel
theorem dX12_passes_112 : decode cX12_passes 112 = .ok (.iaload, 1) := by decide +kernel
theorem dX12_passes_113 : decode cX12_passes 113 = .ok (.iconst 1, 1) := by decide +kernel
theorem dX12_passes_114 : decode cX12_passes 114 = .ok (.iadd, 1) := by decide +kernel
theorem dX12_passes_115 : decode cX12_passes 115 = .ok (.invokestatic 270, 3) := by decide +kernel
theorem dX12_passes_118 : decode cX12_passes 118 = .ok (.iastore, 1) := by decide +kernel
theorem dX12_passes_119 : decode cX12_passes 119 = .ok (.iload_n 2, 1) := by decide +kernel
theorem dX12_passes_120 : decode cX12_passes 120 = .ok (.ireturn, 1) := by decide +kernel
theorem dX12_goes_0 : decode cX12_goes 0 = .ok (.iconst 0, 1) := by decide +kernel
theorem dX12_goes_1 : decode cX12_goes 1 = .ok (.istore_n 3, 1) := by decide +kernel
theorem dX12_goes_2 : decode cX12_goes 2 = .ok (.iconst 0, 1) := by decide +kernel
theorem dX12_goes_3 : decode cX12_goes 3 = .ok (.istore 4, 2) := by decide +kernel
theorem dX12_goes_5 : decode cX12_goes 5 = .ok (.iload 4, 2) := by decide +kernel
theorem dX12_goes_7 : decode cX12_goes 7 = .ok (.iload_n 1, 1) := by decide +kernel
theorem dX12_goes_8 : decode cX12_goes 8 = .ok (.if_icmp .ge 17, 3) := by decide +kernel
theorem dX12_goes_11 : decode cX12_goes 11 = .ok (.iload_n 3, 1) := by decide +kernel
theorem dX12_goes_12 : decode cX12_goes 12 = .ok (.aload_n 0, 1) := by decide +kernel
theorem dX12_goes_13 : decode cX12_goes 13 = .ok (.iload_n 2, 1) := by decide +kernel
theorem dX12_goes_14 : decode cX12_goes 14 = .ok (.invokevirtual 296, 3) := by decide +kernel
theorem dX12_goes_17 : decode cX12_goes 17 = .ok (.iadd, 1) := by decide +kernel
theorem dX12_goes_18 : decode cX12_goes 18 = .ok (.istore_n 3, 1) := by decide +kernel
theorem dX12_goes_19 : decode cX12_goes 19 = .ok (.iinc 4 1, 3) := by decide +kernel
theorem dX12_goes_22 : decode cX12_goes 22 = .ok (.goto (-17), 3) := by decide +kernel
theorem dX12_goes_25 : decode cX12_goes 25 = .ok (.iload_n 3, 1) := by decide +kernel
theorem dX12_goes_26 : decode cX12_goes 26 = .ok (.ireturn, 1) := by decide +kernel
theorem dX12_tiredOfAll_0 : decode cX12_tiredOfAll 0 = .ok (.iconst 0, 1) := by decide +kernel
theorem dX12_tiredOfAll_1 : decode cX12_tiredOfAll 1 = .ok (.istore_n 1, 1) := by decide +kernel
theorem dX12_tiredOfAll_2 : decode cX12_tiredOfAll 2 = .ok (.iconst 0, 1) := by decide +kernel
theorem dX12_tiredOfAll_3 : decode cX12_tiredOfAll 3 = .ok (.istore_n 2, 1) := by decide +kernel
theorem dX12_tiredOfAll_4 : decode cX12_tiredOfAll 4 = .ok (.iload_n 2, 1) := by decide +kernel
theorem dX12_tiredOfAll_5 : decode cX12_tiredOfAll 5 = .ok (.aload_n 0, 1) := by decide +kernel
theorem dX12_tiredOfAll_6 : decode cX12_tiredOfAll 6 = .ok (.getfield 7, 3) := by decide +kernel
theorem dX12_tiredOfAll_9 : decode cX12_tiredOfAll 9 = .ok (.iconst 4, 1) := by decide +kernel
theorem dX12_tiredOfAll_10 : decode cX12_tiredOfAll 10 = .ok (.iaload, 1) := by decide +kernel
theorem dX12_tiredOfAll_11 : decode cX12_tiredOfAll 11 = .ok (.if_icmp .ge 18, 3) := by decide +kernel
theorem dX12_tiredOfAll_14 : decode cX12_tiredOfAll 14 = .ok (.iload_n 1, 1) := by decide +kernel
theorem dX12_tiredOfAll_15 : decode cX12_tiredOfAll 15 = .ok (.aload_n 0, 1) := by decide +kernel
theorem dX12_tiredOfAll_16 : decode cX12_tiredOfAll 16 = .ok (.iload_n 2, 1) := by decide +kernel
theorem dX12_tiredOfAll_17 : decode cX12_tiredOfAll 17 = .ok (.iconst 3, 1) := by decide +kernel
theorem dX12_tiredOfAll_18 : decode cX12_tiredOfAll 18 = .ok (.invokevirtual 263, 3) := by decide +kernel
theorem dX12_tiredOfAll_21 : decode cX12_tiredOfAll 21 = .ok (.iadd, 1) := by decide +kernel
theorem dX12_tiredOfAll_22 : decode cX12_tiredOfAll 22 = .ok (.istore_n 1, 1) := by decide +kernel
theorem dX12_tiredOfAll_23 : decode cX12_tiredOfAll 23 = .ok (.iinc 2 1, 3) := by decide +kernel
theorem dX12_tiredOfAll_26 : decode cX12_tiredOfAll 26 = .ok (.goto (-22), 3) := by decide +kernel
theorem dX12_tiredOfAll_29 : decode cX12_tiredOfAll 29 = .ok (.iload_n 1, 1) := by decide +kernel
theorem dX12_tiredOfAll_30 : decode cX12_tiredOfAll 30 = .ok (.ireturn, 1) := by decide +kernel
theorem dX12_paged_0 : decode cX12_paged 0 = .ok (.iconst 0, 1) := by decide +kernel
theorem dX12_paged_1 : decode cX12_paged 1 = .ok (.istore_n 3, 1) := by decide +kernel
theorem dX12_paged_2 : decode cX12_paged 2 = .ok (.iconst 0, 1) := by decide +kernel
theorem dX12_paged_3 : decode cX12_paged 3 = .ok (.istore 4, 2) := by decide +kernel
theorem dX12_paged_5 : decode cX12_paged 5 = .ok (.iload 4, 2) := by decide +kernel
theorem dX12_paged_7 : decode cX12_paged 7 = .ok (.aload_n 0, 1) := by decide +kernel
theorem dX12_paged_8 : decode cX12_paged 8 = .ok (.getfield 7, 3) := by decide +kernel
theorem dX12_paged_11 : decode cX12_paged 11 = .ok (.bipush 6, 2) := by decide +kernel
theorem dX12_paged_13 : decode cX12_paged 13 = .ok (.iaload, 1) := by decide +kernel
theorem dX12_paged_14 : decode cX12_paged 14 = .ok (.if_icmp .ge 28, 3) := by decide +kernel
theorem dX12_paged_17 : decode cX12_paged 17 = .ok (.iload_n 3, 1) := by decide +kernel
theorem dX12_paged_18 : decode cX12_paged 18 = .ok (.aload_n 0, 1) := by decide +kernel
theorem dX12_paged_19 : decode cX12_paged 19 = .ok (.iload_n 1, 1) := by decide +kernel
theorem dX12_paged_20 : decode cX12_paged 20 = .ok (.iload 4, 2) := by decide +kernel
theorem dX12_paged_22 : decode cX12_paged 22 = .ok (.invokevirtual 299, 3) := by decide +kernel
theorem dX12_paged_25 : decode cX12_paged 25 = .ok (.iload_n 2, 1) := by decide +kernel
theorem dX12_paged_26 : decode cX12_paged 26 = .ok (.if_icmp .ne 7, 3) := by decide +kernel
theorem dX12_paged_29 : decode cX12_paged 29 = .ok (.iconst 1, 1) := by decide +kernel
theorem dX12_paged_30 : decode cX12_paged 30 = .ok (.goto 4, 3) := by decide +kernel
theorem dX12_paged_33 : decode cX12_paged 33 = .ok (.iconst 0, 1) := by decide +kernel
theorem dX12_paged_34 : decode cX12_paged 34 = .ok (.iadd, 1) := by decide +kernel
theorem dX12_paged_35 : decode cX12_paged 35 = .ok (.istore_n 3, 1) := by decide +kernel
theorem dX12_paged_36 : decode cX12_paged 36 = .ok (.iinc 4 1, 3) := by decide +kernel
theorem dX12_paged_39 : decode cX12_paged 39 = .ok (.goto (-34), 3) := by decide +kernel
theorem dX12_paged_42 : decode cX12_paged 42 = .ok (.iload_n 3, 1) := by decide +kernel
theorem dX12_paged_43 : decode cX12_paged 43 = .ok (.ireturn, 1) := by decide +kernel
theorem dX12_pagedOfAll_0 : decode cX12_pagedOfAll 0 = .ok (.iconst 0, 1) := by decide +kernel
theorem dX12_pagedOfAll_1 : decode cX12_pagedOfAll 1 = .ok (.istore_n 2, 1) := by decide +kernel
theorem dX12_pagedOfAll_2 : decode cX12_pagedOfAll 2 = .ok (.iconst 0, 1) := by decide +kernel
theorem dX12_pagedOfAll_3 : decode cX12_pagedOfAll 3 = .ok (.istore_n 3, 1) := by decide +kernel
theorem dX12_pagedOfAll_4 : decode cX12_pagedOfAll 4 = .ok (.iload_n 3, 1) := by decide +kernel
theorem dX12_pagedOfAll_5 : decode cX12_pagedOfAll 5 = .ok (.aload_n 0, 1) := by decide +kernel
theorem dX12_pagedOfAll_6 : decode cX12_pagedOfAll 6 = .ok (.getfield 7, 3) := by decide +kernel
theorem dX12_pagedOfAll_9 : decode cX12_pagedOfAll 9 = .ok (.iconst 4, 1) := by decide +kernel
theorem dX12_pagedOfAll_10 : decode cX12_pagedOfAll 10 = .ok (.iaload, 1) := by decide +kernel
theorem dX12_pagedOfAll_11 : decode cX12_pagedOfAll 11 = .ok (.if_icmp .ge 18, 3) := by decide +kernel
theorem dX12_pagedOfAll_14 : decode cX12_pagedOfAll 14 = .ok (.iload_n 2, 1) := by decide +kernel
theorem dX12_pagedOfAll_15 : decode cX12_pagedOfAll 15 = .ok (.aload_n 0, 1) := by decide +kernel
theorem dX12_pagedOfAll_16 : decode cX12_pagedOfAll 16 = .ok (.iload_n 3, 1) := by decide +kernel
theorem dX12_pagedOfAll_17 : decode cX12_pagedOfAll 17 = .ok (.iload_n 1, 1) := by decide +kernel
theorem dX12_pagedOfAll_18 : decode cX12_pagedOfAll 18 = .ok (.invokevirtual 302, 3) := by decide +kernel
theorem dX12_pagedOfAll_21 : decode cX12_pagedOfAll 21 = .ok (.iadd, 1) := by decide +kernel
theorem dX12_pagedOfAll_22 : decode cX12_pagedOfAll 22 = .ok (.istore_n 2, 1) := by decide +kernel
theorem dX12_pagedOfAll_23 : decode cX12_pagedOfAll 23 = .ok (.iinc 3 1, 3) := by decide +kernel
theorem dX12_pagedOfAll_26 : decode cX12_pagedOfAll 26 = .ok (.goto (-22), 3) := by decide +kernel
theorem dX12_pagedOfAll_29 : decode cX12_pagedOfAll 29 = .ok (.iload_n 2, 1) := by decide +kernel
theorem dX12_pagedOfAll_30 : decode cX12_pagedOfAll 30 = .ok (.ireturn, 1) := by decide +kernel
theorem dX12_changeOf_0 : decode cX12_changeOf 0 = .ok (.aload_n 0, 1) := by decide +kernel
theorem dX12_changeOf_1 : decode cX12_changeOf 1 = .ok (.iload_n 1, 1) := by decide +kernel
theorem dX12_changeOf_2 : decode cX12_changeOf 2 = .ok (.bipush 6, 2) := by decide +kernel
theorem dX12_changeOf_4 : decode cX12_changeOf 4 = .ok (.invokevirtual 245, 3) := by decide +kernel
theorem dX12_changeOf_7 : decode cX12_changeOf 7 = .ok (.istore_n 3, 1) := by decide +kernel
theorem dX12_changeOf_8 : decode cX12_changeOf 8 = .ok (.aload_n 0, 1) := by decide +kernel
theorem dX12_changeOf_9 : decode cX12_changeOf 9 = .ok (.iload_n 2, 1) := by decide +kernel
theorem dX12_changeOf_10 : decode cX12_changeOf 10 = .ok (.bipush 6, 2) := by decide +kernel
theorem dX12_changeOf_12 : decode cX12_changeOf 12 = .ok (.invokevirtual 245, 3) := by decide +kernel
theorem dX12_changeOf_15 : decode cX12_changeOf 15 = .ok (.istore 4, 2) := by decide +kernel
theorem dX12_changeOf_17 : decode cX12_changeOf 17 = .ok (.iconst 0, 1) := by decide +kernel
theorem dX12_changeOf_18 : decode cX12_changeOf 18 = .ok (.istore 5, 2) := by decide +kernel
theorem dX12_changeOf_20 : decode cX12_changeOf 20 = .ok (.iload 5, 2) := by decide +kernel
theorem dX12_changeOf_22 : decode cX12_changeOf 22 = .ok (.iload_n 3, 1) := by decide +kernel
theorem dX12_changeOf_23 : decode cX12_changeOf 23 = .ok (.if_icmp .gt 150, 3) := by decide +kernel
theorem dX12_changeOf_26 : decode cX12_changeOf 26 = .ok (.iconst 0, 1) := by decide +kernel
theorem dX12_changeOf_27 : decode cX12_changeOf 27 = .ok (.istore 6, 2) := by decide +kernel
theorem dX12_changeOf_29 : decode cX12_changeOf 29 = .ok (.iload 6, 2) := by decide +kernel
theorem dX12_changeOf_31 : decode cX12_changeOf 31 = .ok (.iload 4, 2) := by decide +kernel
theorem dX12_changeOf_33 : decode cX12_changeOf 33 = .ok (.if_icmp .gt 134, 3) := by decide +kernel
theorem dX12_changeOf_36 : decode cX12_changeOf 36 = .ok (.iload 5, 2) := by decide +kernel
theorem dX12_changeOf_38 : decode cX12_changeOf 38 = .ok (.ifCond .ne 8, 3) := by decide +kernel
theorem dX12_changeOf_41 : decode cX12_changeOf 41 = .ok (.iload 6, 2) := by decide +kernel
theorem dX12_changeOf_43 : decode cX12_changeOf 43 = .ok (.goto 5, 3) := by decide +kernel
theorem dX12_changeOf_46 : decode cX12_changeOf 46 = .ok (.iload 5, 2) := by decide +kernel
theorem dX12_changeOf_48 : decode cX12_changeOf 48 = .ok (.istore 7, 2) := by decide +kernel
theorem dX12_changeOf_50 : decode cX12_changeOf 50 = .ok (.iload 5, 2) := by decide +kernel
theorem dX12_changeOf_52 : decode cX12_changeOf 52 = .ok (.ifCond .le 94, 3) := by decide +kernel
theorem dX12_changeOf_55 : decode cX12_changeOf 55 = .ok (.iload 6, 2) := by decide +kernel
theorem dX12_changeOf_57 : decode cX12_changeOf 57 = .ok (.ifCond .le 89, 3) := by decide +kernel
theorem dX12_changeOf_60 : decode cX12_changeOf 60 = .ok (.aload_n 0, 1) := by decide +kernel
theorem dX12_changeOf_61 : decode cX12_changeOf 61 = .ok (.getfield 35, 3) := by decide +kernel
theorem dX12_changeOf_64 : decode cX12_changeOf 64 = .ok (.bipush 7, 2) := by decide +kernel
theorem dX12_changeOf_66 : decode cX12_changeOf 66 = .ok (.iload 5, 2) := by decide +kernel
theorem dX12_changeOf_68 : decode cX12_changeOf 68 = .ok (.imul, 1) := by decide +kernel
theorem dX12_changeOf_69 : decode cX12_changeOf 69 = .ok (.bipush 7, 2) := by decide +kernel
theorem dX12_changeOf_71 : decode cX12_changeOf 71 = .ok (.isub, 1) := by decide +kernel
theorem dX12_changeOf_72 : decode cX12_changeOf 72 = .ok (.iload 6, 2) := by decide +kernel
theorem dX12_changeOf_74 : decode cX12_changeOf 74 = .ok (.iadd, 1) := by decide +kernel
theorem dX12_changeOf_75 : decode cX12_changeOf 75 = .ok (.iaload, 1) := by decide +kernel
theorem dX12_changeOf_76 : decode cX12_changeOf 76 = .ok (.aload_n 0, 1) := by decide +kernel
theorem dX12_changeOf_77 : decode cX12_changeOf 77 = .ok (.getfield 35, 3) := by decide +kernel
theorem dX12_changeOf_80 : decode cX12_changeOf 80 = .ok (.bipush 7, 2) := by decide +kernel
theorem dX12_changeOf_82 : decode cX12_changeOf 82 = .ok (.iload 5, 2) := by decide +kernel
theorem dX12_changeOf_84 : decode cX12_changeOf 84 = .ok (.imul, 1) := by decide +kernel
theorem dX12_changeOf_85 : decode cX12_changeOf 85 = .ok (.iload 6, 2) := by decide +kernel
theorem dX12_changeOf_87 : decode cX12_changeOf 87 = .ok (.iadd, 1) := by decide +kernel
theorem dX12_changeOf_88 : decode cX12_changeOf 88 = .ok (.iconst 1, 1) := by decide +kernel
theorem dX12_changeOf_89 : decode cX12_changeOf 89 = .ok (.isub, 1) := by decide +kernel
theorem dX12_changeOf_90 : decode cX12_changeOf 90 = .ok (.iaload, 1) := by decide +kernel
theorem dX12_changeOf_91 : decode cX12_changeOf 91 = .ok (.invokestatic 270, 3) := by decide +kernel
theorem dX12_changeOf_94 : decode cX12_changeOf 94 = .ok (.iconst 1, 1) := by decide +kernel
theorem dX12_changeOf_95 : decode cX12_changeOf 95 = .ok (.iadd, 1) := by decide +kernel
theorem dX12_changeOf_96 : decode cX12_changeOf 96 = .ok (.aload_n 0, 1) := by decide +kernel
theorem dX12_changeOf_97 : decode cX12_changeOf 97 = .ok (.getfield 35, 3) := by decide +kernel
theorem dX12_changeOf_100 : decode cX12_changeOf 100 = .ok (.bipush 7, 2) := by decide +kernel
theorem dX12_changeOf_102 : decode cX12_changeOf 102 = .ok (.iload 5, 2) := by decide +kernel
theorem dX12_changeOf_104 : decode cX12_changeOf 104 = .ok (.imul, 1) := by decide +kernel
theorem dX12_changeOf_105 : decode cX12_changeOf 105 = .ok (.bipush 7, 2) := by decide +kernel
theorem dX12_changeOf_107 : decode cX12_changeOf 107 = .ok (.isub, 1) := by decide +kernel
theorem dX12_changeOf_108 : decode cX12_changeOf 108 = .ok (.iload 6, 2) := by decide +kernel
theorem dX12_changeOf_110 : decode cX12_changeOf 110 = .ok (.iadd, 1) := by decide +kernel
theorem dX12_changeOf_111 : decode cX12_changeOf 111 = .ok (.iconst 1, 1) := by decide +kernel
theorem dX12_changeOf_112 : decode cX12_changeOf 112 = .ok (.isub, 1) := by decide +kernel
theorem dX12_changeOf_113 : decode cX12_changeOf 113 = .ok (.iaload, 1) := by decide +kernel
theorem dX12_changeOf_114 : decode cX12_changeOf 114 = .ok (.aload_n 0, 1) := by decide +kernel
theorem dX12_changeOf_115 : decode cX12_changeOf 115 = .ok (.iload_n 1, 1) := by decide +kernel
theorem dX12_changeOf_116 : decode cX12_changeOf 116 = .ok (.iload 5, 2) := by decide +kernel
theorem dX12_changeOf_118 : decode cX12_changeOf 118 = .ok (.iconst 1, 1) := by decide +kernel
theorem dX12_changeOf_119 : decode cX12_changeOf 119 = .ok (.isub, 1) := by decide +kernel
theorem dX12_changeOf_120 : decode cX12_changeOf 120 = .ok (.invokevirtual 245, 3) := by decide +kernel
theorem dX12_changeOf_123 : decode cX12_changeOf 123 = .ok (.aload_n 0, 1) := by decide +kernel
theorem dX12_changeOf_124 : decode cX12_changeOf 124 = .ok (.iload_n 2, 1) := by decide +kernel
theorem dX12_changeOf_125 : decode cX12_changeOf 125 = .ok (.iload 6, 2) := by decide +kernel
theorem dX12_changeOf_127 : decode cX12_changeOf 127 = .ok (.iconst 1, 1) := by decide +kernel
theorem dX12_changeOf_128 : decode cX12_changeOf 128 = .ok (.isub, 1) := by decide +kernel
theorem dX12_changeOf_129 : decode cX12_changeOf 129 = .ok (.invokevirtual 245, 3) := by decide +kernel
theorem dX12_changeOf_132 : decode cX12_changeOf 132 = .ok (.if_icmp .ne 7, 3) := by decide +kernel
theorem dX12_changeOf_135 : decode cX12_changeOf 135 = .ok (.iconst 0, 1) := by decide +kernel
theorem dX12_changeOf_136 : decode cX12_changeOf 136 = .ok (.goto 4, 3) := by decide +kernel
theorem dX12_changeOf_139 : decode cX12_changeOf 139 = .ok (.iconst 1, 1) := by decide +kernel
theorem dX12_changeOf_140 : decode cX12_changeOf 140 = .ok (.iadd, 1) := by decide +kernel
theorem dX12_changeOf_141 : decode cX12_changeOf 141 = .ok (.invokestatic 270, 3) := by decide +kernel
theorem dX12_changeOf_144 : decode cX12_changeOf 144 = .ok (.istore 7, 2) := by decide +kernel
theorem dX12_changeOf_146 : decode cX12_changeOf 146 = .ok (.aload_n 0, 1) := by decide +kernel
theorem dX12_changeOf_147 : decode cX12_changeOf 147 = .ok (.getfield 35, 3) := by decide +kernel
theorem dX12_changeOf_150 : decode cX12_changeOf 150 = .ok (.bipush 7, 2) := by decide +kernel
theorem dX12_changeOf_152 : decode cX12_changeOf 152 = .ok (.iload 5, 2) := by decide +kernel
theorem dX12_changeOf_154 : decode cX12_changeOf 154 = .ok (.imul, 1) := by decide +kernel
theorem dX12_changeOf_155 : decode cX12_changeOf 155 = .ok (.iload 6, 2) := by decide +kernel
theorem dX12_changeOf_157 : decode cX12_changeOf 157 = .ok (.iadd, 1) := by decide +kernel
theorem dX12_changeOf_158 : decode cX12_changeOf 158 = .ok (.iload 7, 2) := by decide +kernel
theorem dX12_changeOf_160 : decode cX12_changeOf 160 = .ok (.iastore, 1) := by decide +kernel
theorem dX12_changeOf_161 : decode cX12_changeOf 161 = .ok (.iinc 6 1, 3) := by decide +kernel
theorem dX12_changeOf_164 : decode cX12_changeOf 164 = .ok (.goto (-135), 3) := by decide +kernel
theorem dX12_changeOf_167 : decode cX12_changeOf 167 = .ok (.iinc 5 1, 3) := by decide +kernel
theorem dX12_changeOf_170 : decode cX12_changeOf 170 = .ok (.goto (-150), 3) := by decide +kernel
theorem dX12_changeOf_173 : decode cX12_changeOf 173 = .ok (.aload_n 0, 1) := by decide +kernel
theorem dX12_changeOf_174 : decode cX12_changeOf 174 = .ok (.getfield 35, 3) := by decide +kernel
theorem dX12_changeOf_177 : decode cX12_changeOf 177 = .ok (.bipush 7, 2) := by decide +kernel
theorem dX12_changeOf_179 : decode cX12_changeOf 179 = .ok (.iload_n 3, 1) := by decide +kernel
theorem dX12_changeOf_180 : decode cX12_changeOf 180 = .ok (.imul, 1) := by decide +kernel
theorem dX12_changeOf_181 : decode cX12_changeOf 181 = .ok (.iload 4, 2) := by decide +kernel
theorem dX12_changeOf_183 : decode cX12_changeOf 183 = .ok (.iadd, 1) := by decide +kernel
theorem dX12_changeOf_184 : decode cX12_changeOf 184 = .ok (.iaload, 1) := by decide +kernel
theorem dX12_changeOf_185 : decode cX12_changeOf 185 = .ok (.ireturn, 1) := by decide +kernel
theorem dX12_closest_0 : decode cX12_closest 0 = .ok (.iconst (-1), 1) := by decide +kernel
theorem dX12_closest_1 : decode cX12_closest 1 = .ok (.istore_n 2, 1) := by decide +kernel
theorem dX12_closest_2 : decode cX12_closest 2 = .ok (.ldc_w 305, 3) := by decide +kernel
theorem dX12_closest_5 : decode cX12_closest 5 = .ok (.istore_n 3, 1) := by decide +kernel
theorem dX12_closest_6 : decode cX12_closest 6 = .ok (.iconst 0, 1) := by decide +kernel
theorem dX12_closest_7 : decode cX12_closest 7 = .ok (.istore 4, 2) := by decide +kernel
theorem dX12_closest_9 : decode cX12_closest 9 = .ok (.iload 4, 2) := by decide +kernel
theorem dX12_closest_11 : decode cX12_closest 11 = .ok (.aload_n 0, 1) := by decide +kernel
theorem dX12_closest_12 : decode cX12_closest 12 = .ok (.getfield 7, 3) := by decide +kernel
theorem dX12_closest_15 : decode cX12_closest 15 = .ok (.iconst 3, 1) := by decide +kernel
theorem dX12_closest_16 : decode cX12_closest 16 = .ok (.iaload, 1) := by decide +kernel
theorem dX12_closest_17 : decode cX12_closest 17 = .ok (.if_icmp .ge 45, 3) := by decide +kernel
theorem dX12_closest_20 : decode cX12_closest 20 = .ok (.iload 4, 2) := by decide +kernel
theorem dX12_closest_22 : decode cX12_closest 22 = .ok (.iload_n 1, 1) := by decide +kernel
theorem dX12_closest_23 : decode cX12_closest 23 = .ok (.if_icmp .ne 9, 3) := by decide +kernel
theorem dX12_closest_26 : decode cX12_closest 26 = .ok (.ldc_w 305, 3) := by decide +kernel
theorem dX12_closest_29 : decode cX12_closest 29 = .ok (.goto 10, 3) := by decide +kernel
theorem dX12_closest_32 : decode cX12_closest 32 = .ok (.aload_n 0, 1) := by decide +kernel
theorem dX12_closest_33 : decode cX12_closest 33 = .ok (.iload_n 1, 1) := by decide +kernel
theorem dX12_closest_34 : decode cX12_closest 34 = .ok (.iload 4, 2) := by decide +kernel
theorem dX12_closest_36 : decode cX12_closest 36 = .ok (.invokevirtual 306, 3) := by decide +kernel
theorem dX12_closest_39 : decode cX12_closest 39 = .ok (.istore 5, 2) := by decide +kernel
theorem dX12_closest_41 : decode cX12_closest 41 = .ok (.iload 5, 2) := by decide +kernel
theorem dX12_closest_43 : decode cX12_closest 43 = .ok (.iload_n 3, 1) := by decide +kernel
theorem dX12_closest_44 : decode cX12_closest 44 = .ok (.if_icmp .lt 6, 3) := by decide +kernel
theorem dX12_closest_47 : decode cX12_closest 47 = .ok (.goto 9, 3) := by decide +kernel
theorem dX12_closest_50 : decode cX12_closest 50 = .ok (.iload 5, 2) := by decide +kernel
theorem dX12_closest_52 : decode cX12_closest 52 = .ok (.istore_n 3, 1) := by decide +kernel
theorem dX12_closest_53 : decode cX12_closest 53 = .ok (.iload 4, 2) := by decide +kernel
theorem dX12_closest_55 : decode cX12_closest 55 = .ok (.istore_n 2, 1) := by decide +kernel
theorem dX12_closest_56 : decode cX12_closest 56 = .ok (.iinc 4 1, 3) := by decide +kernel
theorem dX12_closest_59 : decode cX12_closest 59 = .ok (.goto (-50), 3) := by decide +kernel
theorem dX12_closest_62 : decode cX12_closest 62 = .ok (.iload_n 2, 1) := by decide +kernel
theorem dX12_closest_63 : decode cX12_closest 63 = .ok (.ireturn, 1) := by decide +kernel
theorem dX12_allCoded_0 : decode cX12_allCoded 0 = .ok (.iconst 0, 1) := by decide +kernel
theorem dX12_allCoded_1 : decode cX12_allCoded 1 = .ok (.istore_n 1, 1) := by decide +kernel
theorem dX12_allCoded_2 : decode cX12_allCoded 2 = .ok (.iload_n 1, 1) := by decide +kernel
theorem dX12_allCoded_3 : decode cX12_allCoded 3 = .ok (.sipush 129, 3) := by decide +kernel
theorem dX12_allCoded_6 : decode cX12_allCoded 6 = .ok (.if_icmp .ge 27, 3) := by decide +kernel
theorem dX12_allCoded_9 : decode cX12_allCoded 9 = .ok (.aload_n 0, 1) := by decide +kernel
theorem dX12_allCoded_10 : decode cX12_allCoded 10 = .ok (.getfield 38, 3) := by decide +kernel
theorem dX12_allCoded_13 : decode cX12_allCoded 13 = .ok (.sipush 129, 3) := by decide +kernel
theorem dX12_allCoded_16 : decode cX12_allCoded 16 = .ok (.aload_n 0, 1) := by decide +kernel
theorem dX12_allCoded_17 : decode cX12_allCoded 17 = .ok (.getfield 7, 3) := by decide +kernel
theorem dX12_allCoded_20 : decode cX12_allCoded 20 = .ok (.iconst 3, 1) := by decide +kernel
theorem dX12_allCoded_21 : decode cX12_allCoded 21 = .ok (.iaload, 1) := by decide +kernel
theorem dX12_allCoded_22 : decode cX12_allCoded 22 = .ok (.imul, 1) := by decide +kernel
theorem dX12_allCoded_23 : decode cX12_allCoded 23 = .ok (.iload_n 1, 1) := by decide +kernel
theorem dX12_allCoded_24 : decode cX12_allCoded 24 = .ok (.iadd, 1) := by decide +kernel
theorem dX12_allCoded_25 : decode cX12_allCoded 25 = .ok (.iconst 0, 1) := by decide +kernel
theorem dX12_allCoded_26 : decode cX12_allCoded 26 = .ok (.iastore, 1) := by decide +kernel
theorem dX12_allCoded_27 : decode cX12_allCoded 27 = .ok (.iinc 1 1, 3) := by decide +kernel
theorem dX12_allCoded_30 : decode cX12_allCoded 30 = .ok (.goto (-28), 3) := by decide +kernel
theorem dX12_allCoded_33 : decode cX12_allCoded 33 = .ok (.aload_n 0, 1) := by decide +kernel
theorem dX12_allCoded_34 : decode cX12_allCoded 34 = .ok (.getfield 7, 3) := by decide +kernel
theorem dX12_allCoded_37 : decode cX12_allCoded 37 = .ok (.iconst 3, 1) := by decide +kernel
theorem dX12_allCoded_38 : decode cX12_allCoded 38 = .ok (.iaload, 1) := by decide +kernel
theorem dX12_allCoded_39 : decode cX12_allCoded 39 = .ok (.iconst 1, 1) := by decide +kernel
theorem dX12_allCoded_40 : decode cX12_allCoded 40 = .ok (.isub, 1) := by decide +kernel
theorem dX12_allCoded_41 : decode cX12_allCoded 41 = .ok (.istore_n 1, 1) := by decide +kernel
theorem dX12_allCoded_42 : decode cX12_allCoded 42 = .ok (.iload_n 1, 1) := by decide +kernel
theorem dX12_allCoded_43 : decode cX12_allCoded 43 = .ok (.ifCond .lt 70, 3) := by decide +kernel
theorem dX12_allCoded_46 : decode cX12_allCoded 46 = .ok (.iconst 0, 1) := by decide +kernel
theorem dX12_allCoded_47 : decode cX12_allCoded 47 = .ok (.istore_n 2, 1) := by decide +kernel
theorem dX12_allCoded_48 : decode cX12_allCoded 48 = .ok (.iload_n 2, 1) := by decide +kernel
theorem dX12_allCoded_49 : decode cX12_allCoded 49 = .ok (.sipush 129, 3) := by decide +kernel
theorem dX12_allCoded_52 : decode cX12_allCoded 52 = .ok (.if_icmp .ge 55, 3) := by decide +kernel
theorem dX12_allCoded_55 : decode cX12_allCoded 55 = .ok (.ldc_w 305, 3) := by decide +kernel
theorem dX12_allCoded_58 : decode cX12_allCoded 58 = .ok (.istore_n 3, 1) := by decide +kernel
theorem dX12_allCoded_59 : decode cX12_allCoded 59 = .ok (.iconst 1, 1) := by decide +kernel
theorem dX12_allCoded_60 : decode cX12_allCoded 60 = .ok (.istore 4, 2) := by decide +kernel
theorem dX12_allCoded_62 : decode cX12_allCoded 62 = .ok (.iload 4, 2) := by decide +kernel
theorem dX12_allCoded_64 : decode cX12_allCoded 64 = .ok (.bipush 8, 2) := by decide +kernel
theorem dX12_allCoded_66 : decode cX12_allCoded 66 = .ok (.if_icmp .ge 22, 3) := by decide +kernel
theorem dX12_allCoded_69 : decode cX12_allCoded 69 = .ok (.iload_n 3, 1) := by decide +kernel
theorem dX12_allCoded_70 : decode cX12_allCoded 70 = .ok (.aload_n 0, 1) := by decide +kernel
theorem dX12_allCoded_71 : decode cX12_allCoded 71 = .ok (.iload_n 1, 1) := by decide +kernel
theorem dX12_allCoded_72 : decode cX12_allCoded 72 = .ok (.iload 4, 2) := by decide +kernel
theorem dX12_allCoded_74 : decode cX12_allCoded 74 = .ok (.iload_n 2, 1) := by decide +kernel
theorem dX12_allCoded_75 : decode cX12_allCoded 75 = .ok (.invokevirtual 309, 3) := by decide +kernel
theorem dX12_allCoded_78 : decode cX12_allCoded 78 = .ok (.invokestatic 270, 3) := by decide +kernel
theorem dX12_allCoded_81 : decode cX12_allCoded 81 = .ok (.istore_n 3, 1) := by decide +kernel
theorem dX12_allCoded_82 : decode cX12_allCoded 82 = .ok (.iinc 4 1, 3) := by decide +kernel
theorem dX12_allCoded_85 : decode cX12_allCoded 85 = .ok (.goto (-23), 3) := by decide +kernel
theorem dX12_allCoded_88 : decode cX12_allCoded 88 = .ok (.aload_n 0, 1) := by decide +kernel
theorem dX12_allCoded_89 : decode cX12_allCoded 89 = .ok (.getfield 38, 3) := by decide +kernel
theorem dX12_allCoded_92 : decode cX12_allCoded 92 = .ok (.sipush 129, 3) := by decide +kernel
theorem dX12_allCoded_95 : decode cX12_allCoded 95 = .ok (.iload_n 1, 1) := by decide +kernel
theorem dX12_allCoded_96 : decode cX12_allCoded 96 = .ok (.imul, 1) := by decide +kernel
theorem dX12_allCoded_97 : decode cX12_allCoded 97 = .ok (.iload_n 2, 1) := by decide +kernel
theorem dX12_allCoded_98 : decode cX12_allCoded 98 = .ok (.iadd, 1) := by decide +kernel
theorem dX12_allCoded_99 : decode cX12_allCoded 99 = .ok (.iload_n 3, 1) := by decide +kernel
theorem dX12_allCoded_100 : decode cX12_allCoded 100 = .ok (.iastore, 1) := by decide +kernel
theorem dX12_allCoded_101 : decode cX12_allCoded 101 = .ok (.iinc 2 1, 3) := by decide +kernel
theorem dX12_allCoded_104 : decode cX12_allCoded 104 = .ok (.goto (-56), 3) := by decide +kernel
theorem dX12_allCoded_107 : decode cX12_allCoded 107 = .ok (.iinc 1 (-1), 3) := by decide +kernel
theorem dX12_allCoded_110 : decode cX12_allCoded 110 = .ok (.goto (-68), 3) := by decide +kernel
theorem dX12_allCoded_113 : decode cX12_allCoded 113 = .ok (.return_, 1) := by decide +kernel
theorem dX12_codedBy_0 : decode cX12_codedBy 0 = .ok (.iconst 1, 1) := by decide +kernel
theorem dX12_codedBy_1 : decode cX12_codedBy 1 = .ok (.bipush 7, 2) := by decide +kernel
theorem dX12_codedBy_3 : decode cX12_codedBy 3 = .ok (.iload_n 2, 1) := by decide +kernel
theorem dX12_codedBy_4 : decode cX12_codedBy 4 = .ok (.isub, 1) := by decide +kernel
theorem dX12_codedBy_5 : decode cX12_codedBy 5 = .ok (.ishl, 1) := by decide +kernel
theorem dX12_codedBy_6 : decode cX12_codedBy 6 = .ok (.istore 4, 2) := by decide +kernel
theorem dX12_codedBy_8 : decode cX12_codedBy 8 = .ok (.iload 4, 2) := by decide +kernel
theorem dX12_codedBy_10 : decode cX12_codedBy 10 = .ok (.iload_n 3, 1) := by decide +kernel
theorem dX12_codedBy_11 : decode cX12_codedBy 11 = .ok (.if_icmp .gt 28, 3) := by decide +kernel
theorem dX12_codedBy_14 : decode cX12_codedBy 14 = .ok (.aload_n 0, 1) := by decide +kernel
theorem dX12_codedBy_15 : decode cX12_codedBy 15 = .ok (.getfield 38, 3) := by decide +kernel
theorem dX12_codedBy_18 : decode cX12_codedBy 18 = .ok (.sipush 129, 3) := by decide +kernel
theorem dX12_codedBy_21 : decode cX12_codedBy 21 = .ok (.iload_n 1, 1) := by decide +kernel
theorem dX12_codedBy_22 : decode cX12_codedBy 22 = .ok (.imul, 1) := by decide +kernel
theorem dX12_codedBy_23 : decode cX12_codedBy 23 = .ok (.sipush 129, 3) := by decide +kernel
theorem dX12_codedBy_26 : decode cX12_codedBy 26 = .ok (.iadd, 1) := by decide +kernel
theorem dX12_codedBy_27 : decode cX12_codedBy 27 = .ok (.iload_n 3, 1) := by decide +kernel
theorem dX12_codedBy_28 : decode cX12_codedBy 28 = .ok (.iadd, 1) := by decide +kernel
theorem dX12_codedBy_29 : decode cX12_codedBy 29 = .ok (.iload 4, 2) := by decide +kernel
theorem dX12_codedBy_31 : decode cX12_codedBy 31 = .ok (.isub, 1) := by decide +kernel
theorem dX12_codedBy_32 : decode cX12_codedBy 32 = .ok (.iaload, 1) := by decide +kernel
theorem dX12_codedBy_33 : decode cX12_codedBy 33 = .ok (.ldc_w 305, 3) := by decide +kernel
theorem dX12_codedBy_36 : decode cX12_codedBy 36 = .ok (.if_icmp .ne 7, 3) := by decide +kernel
theorem dX12_codedBy_39 : decode cX12_codedBy 39 = .ok (.ldc_w 305, 3) := by decide +kernel
theorem dX12_codedBy_42 : decode cX12_codedBy 42 = .ok (.ireturn, 1) := by decide +kernel
theorem dX12_codedBy_43 : decode cX12_codedBy 43 = .ok (.iload_n 2, 1) := by decide +kernel
theorem dX12_codedBy_44 : decode cX12_codedBy 44 = .ok (.aload_n 0, 1) := by decide +kernel
theorem dX12_codedBy_45 : decode cX12_codedBy 45 = .ok (.iload_n 1, 1) := by decide +kernel
theorem dX12_codedBy_46 : decode cX12_codedBy 46 = .ok (.bipush 7, 2) := by decide +kernel
theorem dX12_codedBy_48 : decode cX12_codedBy 48 = .ok (.invokevirtual 245, 3) := by decide +kernel
theorem dX12_codedBy_51 : decode cX12_codedBy 51 = .ok (.imul, 1) := by decide +kernel
theorem dX12_codedBy_52 : decode cX12_codedBy 52 = .ok (.aload_n 0, 1) := by decide +kernel
theorem dX12_codedBy_53 : decode cX12_codedBy 53 = .ok (.getfield 38, 3) := by decide +kernel
theorem dX12_codedBy_56 : decode cX12_codedBy 56 = .ok (.sipush 129, 3) := by decide +kernel
theorem dX12_codedBy_59 : decode cX12_codedBy 59 = .ok (.iload_n 1, 1) := by decide +kernel
theorem dX12_codedBy_60 : decode cX12_codedBy 60 = .ok (.imul, 1) := by decide +kernel
theorem dX12_codedBy_61 : decode cX12_codedBy 61 = .ok (.sipush 129, 3) := by decide +kernel
theorem dX12_codedBy_64 : decode cX12_codedBy 64 = .ok (.iadd, 1) := by decide +kernel
theorem dX12_codedBy_65 : decode cX12_codedBy 65 = .ok (.iload_n 3, 1) := by decide +kernel
theorem dX12_codedBy_66 : decode cX12_codedBy 66 = .ok (.iadd, 1) := by decide +kernel
theorem dX12_codedBy_67 : decode cX12_codedBy 67 = .ok (.iload 4, 2) := by decide +kernel
theorem dX12_codedBy_69 : decode cX12_codedBy 69 = .ok (.isub, 1) := by decide +kernel
theorem dX12_codedBy_70 : decode cX12_codedBy 70 = .ok (.iaload, 1) := by decide +kernel
theorem dX12_codedBy_71 : decode cX12_codedBy 71 = .ok (.iadd, 1) := by decide +kernel
theorem dX12_codedBy_72 : decode cX12_codedBy 72 = .ok (.ireturn, 1) := by decide +kernel
theorem dX12_lengthOf_0 : decode cX12_lengthOf 0 = .ok (.aload_n 0, 1) := by decide +kernel
theorem dX12_lengthOf_1 : decode cX12_lengthOf 1 = .ok (.getfield 7, 3) := by decide +kernel
theorem dX12_lengthOf_4 : decode cX12_lengthOf 4 = .ok (.iconst 3, 1) := by decide +kernel
theorem dX12_lengthOf_5 : decode cX12_lengthOf 5 = .ok (.iaload, 1) := by decide +kernel
theorem dX12_lengthOf_6 : decode cX12_lengthOf 6 = .ok (.iconst 2, 1) := by decide +kernel
theorem dX12_lengthOf_7 : decode cX12_lengthOf 7 = .ok (.if_icmp .ge 5, 3) := by decide +kernel
theorem dX12_lengthOf_10 : decode cX12_lengthOf 10 = .ok (.iconst 0, 1) := by decide +kernel
theorem dX12_lengthOf_11 : decode cX12_lengthOf 11 = .ok (.ireturn, 1) := by decide +kernel
theorem dX12_lengthOf_12 : decode cX12_lengthOf 12 = .ok (.aload_n 0, 1) := by decide +kernel
theorem dX12_lengthOf_13 : decode cX12_lengthOf 13 = .ok (.invokevirtual 313, 3) := by decide +kernel
theorem dX12_lengthOf_16 : decode cX12_lengthOf 16 = .ok (.sipush 128, 3) := by decide +kernel
theorem dX12_lengthOf_19 : decode cX12_lengthOf 19 = .ok (.istore_n 2, 1) := by decide +kernel
theorem dX12_lengthOf_20 : decode cX12_lengthOf 20 = .ok (.iconst 0, 1) := by decide +kernel
theorem dX12_lengthOf_21 : decode cX12_lengthOf 21 = .ok (.istore_n 3, 1) := by decide +kernel
theorem dX12_lengthOf_22 : decode cX12_lengthOf 22 = .ok (.iconst 0, 1) := by decide +kernel
theorem dX12_lengthOf_23 : decode cX12_lengthOf 23 = .ok (.istore 4, 2) := by decide +kernel
theorem dX12_lengthOf_25 : decode cX12_lengthOf 25 = .ok (.iload 4, 2) := by decide +kernel
theorem dX12_lengthOf_27 : decode cX12_lengthOf 27 = .ok (.iload_n 1, 1) := by decide +kernel
theorem dX12_lengthOf_28 : decode cX12_lengthOf 28 = .ok (.if_icmp .gt 50, 3) := by decide +kernel
theorem dX12_lengthOf_31 : decode cX12_lengthOf 31 = .ok (.iconst 1, 1) := by decide +kernel
theorem dX12_lengthOf_32 : decode cX12_lengthOf 32 = .ok (.istore_n 3, 1) := by decide +kernel
theorem dX12_lengthOf_33 : decode cX12_lengthOf 33 = .ok (.aload_n 0, 1) := by decide +kernel
theorem dX12_lengthOf_34 : decode cX12_lengthOf 34 = .ok (.iload 4, 2) := by decide +kernel
theorem dX12_lengthOf_36 : decode cX12_lengthOf 36 = .ok (.iload_n 3, 1) := by decide +kernel
theorem dX12_lengthOf_37 : decode cX12_lengthOf 37 = .ok (.iload_n 2, 1) := by decide +kernel
theorem dX12_lengthOf_38 : decode cX12_lengthOf 38 = .ok (.invokevirtual 309, 3) := by decide +kernel
theorem dX12_lengthOf_41 : decode cX12_lengthOf 41 = .ok (.aload_n 0, 1) := by decide +kernel
theorem dX12_lengthOf_42 : decode cX12_lengthOf 42 = .ok (.getfield 38, 3) := by decide +kernel
theorem dX12_lengthOf_45 : decode cX12_lengthOf 45 = .ok (.sipush 129, 3) := by decide +kernel
theorem dX12_lengthOf_48 : decode cX12_lengthOf 48 = .ok (.iload 4, 2) := by decide +kernel
theorem dX12_lengthOf_50 : decode cX12_lengthOf 50 = .ok (.imul, 1) := by decide +kernel
theorem dX12_lengthOf_51 : decode cX12_lengthOf 51 = .ok (.iload_n 2, 1) := by decide +kernel
theorem dX12_lengthOf_52 : decode cX12_lengthOf 52 = .ok (.iadd, 1) := by decide +kernel
theorem dX12_lengthOf_53 : decode cX12_lengthOf 53 = .ok (.iaload, 1) := by decide +kernel
theorem dX12_lengthOf_54 : decode cX12_lengthOf 54 = .ok (.if_icmp .eq 9, 3) := by decide +kernel
theorem dX12_lengthOf_57 : decode cX12_lengthOf 57 = .ok (.iinc 3 1, 3) := by decide +kernel
theorem dX12_lengthOf_60 : decode cX12_lengthOf 60 = .ok (.goto (-27), 3) := by decide +kernel
theorem dX12_lengthOf_63 : decode cX12_lengthOf 63 = .ok (.iload_n 2, 1) := by decide +kernel
theorem dX12_lengthOf_64 : decode cX12_lengthOf 64 = .ok (.iconst 1, 1) := by decide +kernel
theorem dX12_lengthOf_65 : decode cX12_lengthOf 65 = .ok (.bipush 7, 2) := by decide +kernel
theorem dX12_lengthOf_67 : decode cX12_lengthOf 67 = .ok (.iload_n 3, 1) := by decide +kernel
theorem dX12_lengthOf_68 : decode cX12_lengthOf 68 = .ok (.isub, 1) := by decide +kernel
theorem dX12_lengthOf_69 : decode cX12_lengthOf 69 = .ok (.ishl, 1) := by decide +kernel
theorem dX12_lengthOf_70 : decode cX12_lengthOf 70 = .ok (.isub, 1) := by decide +kernel
theorem dX12_lengthOf_71 : decode cX12_lengthOf 71 = .ok (.istore_n 2, 1) := by decide +kernel
theorem dX12_lengthOf_72 : decode cX12_lengthOf 72 = .ok (.iinc 4 1, 3) := by decide +kernel
theorem dX12_lengthOf_75 : decode cX12_lengthOf 75 = .ok (.goto (-50), 3) := by decide +kernel
theorem dX12_lengthOf_78 : decode cX12_lengthOf 78 = .ok (.iload_n 3, 1) := by decide +kernel
theorem dX12_lengthOf_79 : decode cX12_lengthOf 79 = .ok (.ireturn, 1) := by decide +kernel
theorem dX12_word_0 : decode cX12_word 0 = .ok (.aload_n 0, 1) := by decide +kernel
theorem dX12_word_1 : decode cX12_word 1 = .ok (.aload_n 0, 1) := by decide +kernel
theorem dX12_word_2 : decode cX12_word 2 = .ok (.iload_n 1, 1) := by decide +kernel
theorem dX12_word_3 : decode cX12_word 3 = .ok (.invokevirtual 316, 3) := by decide +kernel
theorem dX12_word_6 : decode cX12_word 6 = .ok (.ifCond .ne 7, 3) := by decide +kernel
theorem dX12_word_9 : decode cX12_word 9 = .ok (.iconst 1, 1) := by decide +kernel
theorem dX12_word_10 : decode cX12_word 10 = .ok (.goto 17, 3) := by decide +kernel
theorem dX12_word_13 : decode cX12_word 13 = .ok (.iload_n 2, 1) := by decide +kernel
theorem dX12_word_14 : decode cX12_word 14 = .ok (.iconst 0, 1) := by decide +kernel
theorem dX12_word_15 : decode cX12_word 15 = .ok (.iconst 3, 1) := by decide +kernel
theorem dX12_word_16 : decode cX12_word 16 = .ok (.invokestatic 60, 3) := by decide +kernel
theorem dX12_word_19 : decode cX12_word 19 = .ok (.ifCond .ne 7, 3) := by decide +kernel
theorem dX12_word_22 : decode cX12_word 22 = .ok (.iconst 2, 1) := by decide +kernel
theorem dX12_word_23 : decode cX12_word 23 = .ok (.goto 4, 3) := by decide +kernel
theorem dX12_word_26 : decode cX12_word 26 = .ok (.iconst 0, 1) := by decide +kernel
theorem dX12_word_27 : decode cX12_word 27 = .ok (.putfield 57, 3) := by decide +kernel
theorem dX12_word_30 : decode cX12_word 30 = .ok (.aload_n 0, 1) := by decide +kernel
theorem dX12_word_31 : decode cX12_word 31 = .ok (.getfield 57, 3) := by decide +kernel
theorem dX12_word_34 : decode cX12_word 34 = .ok (.ifCond .le 5, 3) := by decide +kernel
theorem dX12_word_37 : decode cX12_word 37 = .ok (.iconst 0, 1) := by decide +kernel
theorem dX12_word_38 : decode cX12_word 38 = .ok (.ireturn, 1) := by decide +kernel
theorem dX12_word_39 : decode cX12_word 39 = .ok (.iload_n 2, 1) := by decide +kernel
theorem dX12_word_40 : decode cX12_word 40 = .ok (.iconst 2, 1) := by decide +kernel
theorem dX12_word_41 : decode cX12_word 41 = .ok (.if_icmp .ge 13, 3) := by decide +kernel
theorem dX12_word_44 : decode cX12_word 44 = .ok (.aload_n 0, 1) := by decide +kernel
theorem dX12_word_45 : decode cX12_word 45 = .ok (.iload_n 1, 1) := by decide +kernel
theorem dX12_word_46 : decode cX12_word 46 = .ok (.bipush 6, 2) := by decide +kernel
theorem dX12_word_48 : decode cX12_word 48 = .ok (.iload_n 2, 1) := by decide +kernel
theorem dX12_word_49 : decode cX12_word 49 = .ok (.iadd, 1) := by decide +kernel
theorem dX12_word_50 : decode cX12_word 50 = .ok (.invokevirtual 245, 3) := by decide +kernel
theorem dX12_word_53 : decode cX12_word 53 = .ok (.ireturn, 1) := by decide +kernel
theorem dX12_word_54 : decode cX12_word 54 = .ok (.iload_n 2, 1) := by decide +kernel
theorem dX12_word_55 : decode cX12_word 55 = .ok (.iconst 2, 1) := by decide +kernel
theorem dX12_word_56 : decode cX12_word 56 = .ok (.if_icmp .ne 11, 3) := by decide +kernel
theorem dX12_word_59 : decode cX12_word 59 = .ok (.aload_n 0, 1) := by decide +kernel
theorem dX12_word_60 : decode cX12_word 60 = .ok (.iload_n 1, 1) := by decide +kernel
theorem dX12_word_61 : decode cX12_word 61 = .ok (.invokevirtual 319, 3) := by decide +kernel
theorem dX12_word_64 : decode cX12_word 64 = .ok (.goto 8, 3) := by decide +kernel
theorem dX12_word_67 : decode cX12_word 67 = .ok (.aload_n 0, 1) := by decide +kernel
theorem dX12_word_68 : decode cX12_word 68 = .ok (.iload_n 1, 1) := by decide +kernel
theorem dX12_word_69 : decode cX12_word 69 = .ok (.invokevirtual 322, 3) := by decide +kernel
theorem dX12_word_72 : decode cX12_word 72 = .ok (.ireturn, 1) := by decide +kernel
theorem dX12_letter_0 : decode cX12_letter 0 = .ok (.aload_n 0, 1) := by decide +kernel
theorem dX12_letter_1 : decode cX12_letter 1 = .ok (.aload_n 0, 1) := by decide +kernel
theorem dX12_letter_2 : decode cX12_letter 2 = .ok (.iload_n 1, 1) := by decide +kernel
theorem dX12_letter_3 : decode cX12_letter 3 = .ok (.invokevirtual 316, 3) := by decide +kernel
theorem dX12_letter_6 : decode cX12_letter 6 = .ok (.ifCond .ne 7, 3) := by decide +kernel
theorem dX12_letter_9 : decode cX12_letter 9 = .ok (.iconst 1, 1) := by decide +kernel
theorem dX12_letter_10 : decode cX12_letter 10 = .ok (.goto 4, 3) := by decide +kernel
theorem dX12_letter_13 : decode cX12_letter 13 = .ok (.iconst 0, 1) := by decide +kernel
theorem dX12_letter_14 : decode cX12_letter 14 = .ok (.putfield 57, 3) := by decide +kernel
theorem dX12_letter_17 : decode cX12_letter 17 = .ok (.aload_n 0, 1) := by decide +kernel
theorem dX12_letter_18 : decode cX12_letter 18 = .ok (.getfield 57, 3) := by decide +kernel
theorem dX12_letter_21 : decode cX12_letter 21 = .ok (.ifCond .le 5, 3) := by decide +kernel
theorem dX12_letter_24 : decode cX12_letter 24 = .ok (.iconst 0, 1) := by decide +kernel
theorem dX12_letter_25 : decode cX12_letter 25 = .ok (.ireturn, 1) := by decide +kernel
theorem dX12_letter_26 : decode cX12_letter 26 = .ok (.iload_n 2, 1) := by decide +kernel
theorem dX12_letter_27 : decode cX12_letter 27 = .ok (.iconst 0, 1) := by decide +kernel
theorem dX12_letter_28 : decode cX12_letter 28 = .ok (.aload_n 0, 1) := by decide +kernel
theorem dX12_letter_29 : decode cX12_letter 29 = .ok (.iload_n 1, 1) := by decide +kernel
theorem dX12_letter_30 : decode cX12_letter 30 = .ok (.bipush 6, 2) := by decide +kernel
theorem dX12_letter_32 : decode cX12_letter 32 = .ok (.invokevirtual 245, 3) := by decide +kernel
theorem dX12_letter_35 : decode cX12_letter 35 = .ok (.iconst 1, 1) := by decide +kernel
theorem dX12_letter_36 : decode cX12_letter 36 = .ok (.isub, 1) := by decide +kernel
theorem dX12_letter_37 : decode cX12_letter 37 = .ok (.invokestatic 60, 3) := by decide +kernel
theorem dX12_letter_40 : decode cX12_letter 40 = .ok (.ifCond .eq 12, 3) := by decide +kernel
theorem dX12_letter_43 : decode cX12_letter 43 = .ok (.aload_n 0, 1) := by decide +kernel
theorem dX12_letter_44 : decode cX12_letter 44 = .ok (.iload_n 1, 1) := by decide +kernel
theorem dX12_letter_45 : decode cX12_letter 45 = .ok (.iload_n 2, 1) := by decide +kernel
theorem dX12_letter_46 : decode cX12_letter 46 = .ok (.invokevirtual 245, 3) := by decide +kernel
theorem dX12_letter_49 : decode cX12_letter 49 = .ok (.goto 4, 3) := by decide +kernel
theorem dX12_letter_52 : decode cX12_letter 52 = .ok (.iconst (-1), 1) := by decide +kernel
theorem dX12_letter_53 : decode cX12_letter 53 = .ok (.ireturn, 1) := by decide +kernel
theorem dX12_cleanOf_0 : decode cX12_cleanOf 0 = .ok (.iconst 0, 1) := by decide +kernel
theorem dX12_cleanOf_1 : decode cX12_cleanOf 1 = .ok (.istore_n 2, 1) := by decide +kernel
theorem dX12_cleanOf_2 : decode cX12_cleanOf 2 = .ok (.iconst 0, 1) := by decide +kernel
theorem dX12_cleanOf_3 : decode cX12_cleanOf 3 = .ok (.istore_n 3, 1) := by decide +kernel
theorem dX12_cleanOf_4 : decode cX12_cleanOf 4 = .ok (.iload_n 3, 1) := by decide +kernel
theorem dX12_cleanOf_5 : decode cX12_cleanOf 5 = .ok (.aload_n 0, 1) := by decide +kernel
theorem dX12_cleanOf_6 : decode cX12_cleanOf 6 = .ok (.getfield 7, 3) := by decide +kernel
theorem dX12_cleanOf_9 : decode cX12_cleanOf 9 = .ok (.iconst 3, 1) := by decide +kernel
theorem dX12_cleanOf_10 : decode cX12_cleanOf 10 = .ok (.iaload, 1) := by decide +kernel
theorem dX12_cleanOf_11 : decode cX12_cleanOf 11 = .ok (.if_icmp .ge 33, 3) := by decide +kernel
theorem dX12_cleanOf_14 : decode cX12_cleanOf 14 = .ok (.iload_n 2, 1) := by decide +kernel
theorem dX12_cleanOf_15 : decode cX12_cleanOf 15 = .ok (.aload_n 0, 1) := by decide +kernel
theorem dX12_cleanOf_16 : decode cX12_cleanOf 16 = .ok (.iload_n 3, 1) := by decide +kernel
theorem dX12_cleanOf_17 : decode cX12_cleanOf 17 = .ok (.aload_n 0, 1) := by decide +kernel
theorem dX12_cleanOf_18 : decode cX12_cleanOf 18 = .ok (.iload_n 1, 1) := by decide +kernel
theorem dX12_cleanOf_19 : decode cX12_cleanOf 19 = .ok (.iconst 0, 1) := by decide +kernel
theorem dX12_cleanOf_20 : decode cX12_cleanOf 20 = .ok (.invokevirtual 263, 3) := by decide +kernel
theorem dX12_cleanOf_23 : decode cX12_cleanOf 23 = .ok (.invokevirtual 260, 3) := by decide +kernel
theorem dX12_cleanOf_26 : decode cX12_cleanOf 26 = .ok (.ifCond .ne 9, 3) := by decide +kernel
theorem dX12_cleanOf_29 : decode cX12_cleanOf 29 = .ok (.iconst 1, 1) := by decide +kernel
theorem dX12_cleanOf_30 : decode cX12_cleanOf 30 = .ok (.iload_n 3, 1) := by decide +kernel
theorem dX12_cleanOf_31 : decode cX12_cleanOf 31 = .ok (.ishl, 1) := by decide +kernel
theorem dX12_cleanOf_32 : decode cX12_cleanOf 32 = .ok (.goto 4, 3) := by decide +kernel
theorem dX12_cleanOf_35 : decode cX12_cleanOf 35 = .ok (.iconst 0, 1) := by decide +kernel
theorem dX12_cleanOf_36 : decode cX12_cleanOf 36 = .ok (.ior, 1) := by decide +kernel
theorem dX12_cleanOf_37 : decode cX12_cleanOf 37 = .ok (.istore_n 2, 1) := by decide +kernel
theorem dX12_cleanOf_38 : decode cX12_cleanOf 38 = .ok (.iinc 3 1, 3) := by decide +kernel
theorem dX12_cleanOf_41 : decode cX12_cleanOf 41 = .ok (.goto (-37), 3) := by decide +kernel
theorem dX12_cleanOf_44 : decode cX12_cleanOf 44 = .ok (.iload_n 2, 1) := by decide +kernel
theorem dX12_cleanOf_45 : decode cX12_cleanOf 45 = .ok (.ireturn, 1) := by decide +kernel
theorem dX12_times_0 : decode cX12_times 0 = .ok (.iconst 0, 1) := by decide +kernel
theorem dX12_times_1 : decode cX12_times 1 = .ok (.istore 4, 2) := by decide +kernel
theorem dX12_times_3 : decode cX12_times 3 = .ok (.iconst 0, 1) := by decide +kernel
theorem dX12_times_4 : decode cX12_times 4 = .ok (.istore 5, 2) := by decide +kernel
theorem dX12_times_6 : decode cX12_times 6 = .ok (.iconst 0, 1) := by decide +kernel
theorem dX12_times_7 : decode cX12_times 7 = .ok (.istore 6, 2) := by decide +kernel
theorem dX12_times_9 : decode cX12_times 9 = .ok (.iload 6, 2) := by decide +kernel
theorem dX12_times_11 : decode cX12_times 11 = .ok (.aload_n 0, 1) := by decide +kernel
theorem dX12_times_12 : decode cX12_times 12 = .ok (.getfield 7, 3) := by decide +kernel
theorem dX12_times_15 : decode cX12_times 15 = .ok (.iconst 5, 1) := by decide +kernel
theorem dX12_times_16 : decode cX12_times 16 = .ok (.iaload, 1) := by decide +kernel
theorem dX12_times_17 : decode cX12_times 17 = .ok (.if_icmp .ge 75, 3) := by decide +kernel
theorem dX12_times_20 : decode cX12_times 20 = .ok (.iload 4, 2) := by decide +kernel
theorem dX12_times_22 : decode cX12_times 22 = .ok (.iload 6, 2) := by decide +kernel
theorem dX12_times_24 : decode cX12_times 24 = .ok (.iload_n 2, 1) := by decide +kernel
theorem dX12_times_25 : decode cX12_times 25 = .ok (.imul, 1) := by decide +kernel
theorem dX12_times_26 : decode cX12_times 26 = .ok (.invokestatic 273, 3) := by decide +kernel
theorem dX12_times_29 : decode cX12_times 29 = .ok (.istore 7, 2) := by decide +kernel
theorem dX12_times_31 : decode cX12_times 31 = .ok (.iload 5, 2) := by decide +kernel
theorem dX12_times_33 : decode cX12_times 33 = .ok (.iload 7, 2) := by decide +kernel
theorem dX12_times_35 : decode cX12_times 35 = .ok (.iload 6, 2) := by decide +kernel
theorem dX12_times_37 : decode cX12_times 37 = .ok (.iload_n 2, 1) := by decide +kernel
theorem dX12_times_38 : decode cX12_times 38 = .ok (.imul, 1) := by decide +kernel
theorem dX12_times_39 : decode cX12_times 39 = .ok (.isub, 1) := by decide +kernel
theorem dX12_times_40 : decode cX12_times 40 = .ok (.invokestatic 273, 3) := by decide +kernel
theorem dX12_times_43 : decode cX12_times 43 = .ok (.istore 5, 2) := by decide +kernel
theorem dX12_times_45 : decode cX12_times 45 = .ok (.iload 7, 2) := by decide +kernel
theorem dX12_times_47 : decode cX12_times 47 = .ok (.aload_n 0, 1) := by decide +kernel
theorem dX12_times_48 : decode cX12_times 48 = .ok (.aload_n 0, 1) := by decide +kernel
theorem dX12_times_49 : decode cX12_times 49 = .ok (.getfield 7, 3) := by decide +kernel
theorem dX12_times_52 : decode cX12_times 52 = .ok (.bipush 76, 2) := by decide +kernel
theorem dX12_times_54 : decode cX12_times 54 = .ok (.iload 6, 2) := by decide +kernel
theorem dX12_times_56 : decode cX12_times 56 = .ok (.iadd, 1) := by decide +kernel
theorem dX12_times_57 : decode cX12_times 57 = .ok (.iaload, 1) := by decide +kernel
theorem dX12_times_58 : decode cX12_times 58 = .ok (.aload_n 0, 1) := by decide +kernel
theorem dX12_times_59 : decode cX12_times 59 = .ok (.iload_n 1, 1) := by decide +kernel
theorem dX12_times_60 : decode cX12_times 60 = .ok (.iconst 0, 1) := by decide +kernel
theorem dX12_times_61 : decode cX12_times 61 = .ok (.invokevirtual 263, 3) := by decide +kernel
theorem dX12_times_64 : decode cX12_times 64 = .ok (.invokevirtual 260, 3) := by decide +kernel
theorem dX12_times_67 : decode cX12_times 67 = .ok (.aload_n 0, 1) := by decide +kernel
theorem dX12_times_68 : decode cX12_times 68 = .ok (.iload_n 1, 1) := by decide +kernel
theorem dX12_times_69 : decode cX12_times 69 = .ok (.iconst 1, 1) := by decide +kernel
theorem dX12_times_70 : decode cX12_times 70 = .ok (.invokevirtual 263, 3) := by decide +kernel
theorem dX12_times_73 : decode cX12_times 73 = .ok (.iadd, 1) := by decide +kernel
theorem dX12_times_74 : decode cX12_times 74 = .ok (.iconst 1, 1) := by decide +kernel
theorem dX12_times_75 : decode cX12_times 75 = .ok (.isub, 1) := by decide +kernel
theorem dX12_times_76 : decode cX12_times 76 = .ok (.aload_n 0, 1) := by decide +kernel
theorem dX12_times_77 : decode cX12_times 77 = .ok (.iload_n 1, 1) := by decide +kernel
theorem dX12_times_78 : decode cX12_times 78 = .ok (.iconst 1, 1) := by decide +kernel
theorem dX12_times_79 : decode cX12_times 79 = .ok (.invokevirtual 263, 3) := by decide +kernel
theorem dX12_times_82 : decode cX12_times 82 = .ok (.idiv, 1) := by decide +kernel
theorem dX12_times_83 : decode cX12_times 83 = .ok (.iadd, 1) := by decide +kernel
theorem dX12_times_84 : decode cX12_times 84 = .ok (.istore 4, 2) := by decide +kernel
theorem dX12_times_86 : decode cX12_times 86 = .ok (.iinc 6 1, 3) := by decide +kernel
theorem dX12_times_89 : decode cX12_times 89 = .ok (.goto (-80), 3) := by decide +kernel
theorem dX12_times_92 : decode cX12_times 92 = .ok (.iload_n 3, 1) := by decide +kernel
theorem dX12_times_93 : decode cX12_times 93 = .ok (.ifCond .eq 8, 3) := by decide +kernel
theorem dX12_times_96 : decode cX12_times 96 = .ok (.iload 4, 2) := by decide +kernel
theorem dX12_times_98 : decode cX12_times 98 = .ok (.goto 5, 3) := by decide +kernel
theorem dX12_times_101 : decode cX12_times 101 = .ok (.iload 5, 2) := by decide +kernel
theorem dX12_times_103 : decode cX12_times 103 = .ok (.ireturn, 1) := by decide +kernel
theorem dX12_edgeOf_0 : decode cX12_edgeOf 0 = .ok (.iconst 1, 1) := by decide +kernel
theorem dX12_edgeOf_1 : decode cX12_edgeOf 1 = .ok (.istore_n 2, 1) := by decide +kernel
theorem dX12_edgeOf_2 : decode cX12_edgeOf 2 = .ok (.iload_n 2, 1) := by decide +kernel
theorem dX12_edgeOf_3 : decode cX12_edgeOf 3 = .ok (.bipush 10, 2) := by decide +kernel
theorem dX12_edgeOf_5 : decode cX12_edgeOf 5 = .ok (.if_icmp .ge 21, 3) := by decide +kernel
theorem dX12_edgeOf_8 : decode cX12_edgeOf 8 = .ok (.aload_n 0, 1) := by decide +kernel
theorem dX12_edgeOf_9 : decode cX12_edgeOf 9 = .ok (.iload_n 1, 1) := by decide +kernel
theorem dX12_edgeOf_10 : decode cX12_edgeOf 10 = .ok (.iload_n 2, 1) := by decide +kernel
theorem dX12_edgeOf_11 : decode cX12_edgeOf 11 = .ok (.iconst 0, 1) := by decide +kernel
theorem dX12_edgeOf_12 : decode cX12_edgeOf 12 = .ok (.invokevirtual 325, 3) := by decide +kernel
theorem dX12_edgeOf_15 : decode cX12_edgeOf 15 = .ok (.ifCond .ne 5, 3) := by decide +kernel
theorem dX12_edgeOf_18 : decode cX12_edgeOf 18 = .ok (.iload_n 2, 1) := by decide +kernel
theorem dX12_edgeOf_19 : decode cX12_edgeOf 19 = .ok (.ireturn, 1) := by decide +kernel
theorem dX12_edgeOf_20 : decode cX12_edgeOf 20 = .ok (.iinc 2 1, 3) := by decide +kernel
theorem dX12_edgeOf_23 : decode cX12_edgeOf 23 = .ok (.goto (-21), 3) := by decide +kernel
theorem dX12_edgeOf_26 : decode cX12_edgeOf 26 = .ok (.iconst (-1), 1) := by decide +kernel
theorem dX12_edgeOf_27 : decode cX12_edgeOf 27 = .ok (.ireturn, 1) := by decide +kernel
theorem dX12_runOf_0 : decode cX12_runOf 0 = .ok (.iconst 0, 1) := by decide +kernel
theorem dX12_runOf_1 : decode cX12_runOf 1 = .ok (.istore_n 2, 1) := by decide +kernel
theorem dX12_runOf_2 : decode cX12_runOf 2 = .ok (.iconst 0, 1) := by decide +kernel
theorem dX12_runOf_3 : decode cX12_runOf 3 = .ok (.istore_n 3, 1) := by decide +kernel
theorem dX12_runOf_4 : decode cX12_runOf 4 = .ok (.iconst 0, 1) := by decide +kernel
theorem dX12_runOf_5 : decode cX12_runOf 5 = .ok (.istore 4, 2) := by decide +kernel
theorem dX12_runOf_7 : decode cX12_runOf 7 = .ok (.iload 4, 2) := by decide +kernel
theorem dX12_runOf_9 : decode cX12_runOf 9 = .ok (.aload_n 0, 1) := by decide +kernel
theorem dX12_runOf_10 : decode cX12_runOf 10 = .ok (.getfield 7, 3) := by decide +kernel
theorem dX12_runOf_13 : decode cX12_runOf 13 = .ok (.bipush 6, 2) := by decide +kernel
theorem dX12_runOf_15 : decode cX12_runOf 15 = .ok (.iaload, 1) := by decide +kernel
theorem dX12_runOf_16 : decode cX12_runOf 16 = .ok (.if_icmp .ge 34, 3) := by decide +kernel
theorem dX12_runOf_19 : decode cX12_runOf 19 = .ok (.aload_n 0, 1) := by decide +kernel
theorem dX12_runOf_20 : decode cX12_runOf 20 = .ok (.iload_n 1, 1) := by decide +kernel
theorem dX12_runOf_21 : decode cX12_runOf 21 = .ok (.iload 4, 2) := by decide +kernel
theorem dX12_runOf_23 : decode cX12_runOf 23 = .ok (.invokevirtual 299, 3) := by decide +kernel
theorem dX12_runOf_26 : decode cX12_runOf 26 = .ok (.iconst 1, 1) := by decide +kernel
theorem dX12_runOf_27 : decode cX12_runOf 27 = .ok (.if_icmp .ne 9, 3) := by decide +kernel
theorem dX12_runOf_30 : decode cX12_runOf 30 = .ok (.iload_n 3, 1) := by decide +kernel
theorem dX12_runOf_31 : decode cX12_runOf 31 = .ok (.iconst 1, 1) := by decide +kernel
theorem dX12_runOf_32 : decode cX12_runOf 32 = .ok (.iadd, 1) := by decide +kernel
theorem dX12_runOf_33 : decode cX12_runOf 33 = .ok (.goto 4, 3) := by decide +kernel
theorem dX12_runOf_36 : decode cX12_runOf 36 = .ok (.iconst 0, 1) := by decide +kernel
theorem dX12_runOf_37 : decode cX12_runOf 37 = .ok (.istore_n 3, 1) := by decide +kernel
theorem dX12_runOf_38 : decode cX12_runOf 38 = .ok (.iload_n 2, 1) := by decide +kernel
theorem dX12_runOf_39 : decode cX12_runOf 39 = .ok (.iload_n 3, 1) := by decide +kernel
theorem dX12_runOf_40 : decode cX12_runOf 40 = .ok (.invokestatic 273, 3) := by decide +kernel
theorem dX12_runOf_43 : decode cX12_runOf 43 = .ok (.istore_n 2, 1) := by decide +kernel
theorem dX12_runOf_44 : decode cX12_runOf 44 = .ok (.iinc 4 1, 3) := by decide +kernel
theorem dX12_runOf_47 : decode cX12_runOf 47 = .ok (.goto (-40), 3) := by decide +kernel
theorem dX12_runOf_50 : decode cX12_runOf 50 = .ok (.iload_n 2, 1) := by decide +kernel
theorem dX12_runOf_51 : decode cX12_runOf 51 = .ok (.ireturn, 1) := by decide +kernel
theorem dX12_trueOf_0 : decode cX12_trueOf 0 = .ok (.iconst 0, 1) := by decide +kernel
theorem dX12_trueOf_1 : decode cX12_trueOf 1 = .ok (.istore_n 2, 1) := by decide +kernel
theorem dX12_trueOf_2 : decode cX12_trueOf 2 = .ok (.iconst 0, 1) := by decide +kernel
theorem dX12_trueOf_3 : decode cX12_trueOf 3 = .ok (.istore_n 3, 1) := by decide +kernel
theorem dX12_trueOf_4 : decode cX12_trueOf 4 = .ok (.iload_n 3, 1) := by decide +kernel
theorem dX12_trueOf_5 : decode cX12_trueOf 5 = .ok (.aload_n 0, 1) := by decide +kernel
theorem dX12_trueOf_6 : decode cX12_trueOf 6 = .ok (.getfield 7, 3) := by decide +kernel
theorem dX12_trueOf_9 : decode cX12_trueOf 9 = .ok (.bipush 6, 2) := by decide +kernel
theorem dX12_trueOf_11 : decode cX12_trueOf 11 = .ok (.iaload, 1) := by decide +kernel
theorem dX12_trueOf_12 : decode cX12_trueOf 12 = .ok (.if_icmp .ge 58, 3) := by decide +kernel
theorem dX12_trueOf_15 : decode cX12_trueOf 15 = .ok (.iload_n 2, 1) := by decide +kernel
theorem dX12_trueOf_16 : decode cX12_trueOf 16 = .ok (.aload_n 0, 1) := by decide +kernel
theorem dX12_trueOf_17 : decode cX12_trueOf 17 = .ok (.iload_n 1, 1) := by decide +kernel
theorem dX12_trueOf_18 : decode cX12_trueOf 18 = .ok (.iload_n 3, 1) := by decide +kernel
theorem dX12_trueOf_19 : decode cX12_trueOf 19 = .ok (.invokevirtual 299, 3) := by decide +kernel
theorem dX12_trueOf_22 : decode cX12_trueOf 22 = .ok (.iconst 1, 1) := by decide +kernel
theorem dX12_trueOf_23 : decode cX12_trueOf 23 = .ok (.if_icmp .ne 38, 3) := by decide +kernel
theorem dX12_trueOf_26 : decode cX12_trueOf 26 = .ok (.aload_n 0, 1) := by decide +kernel
theorem dX12_trueOf_27 : decode cX12_trueOf 27 = .ok (.aload_n 0, 1) := by decide +kernel
theorem dX12_trueOf_28 : decode cX12_trueOf 28 = .ok (.getfield 7, 3) := by decide +kernel
theorem dX12_trueOf_31 : decode cX12_trueOf 31 = .ok (.bipush 76, 2) := by decide +kernel
theorem dX12_trueOf_33 : decode cX12_trueOf 33 = .ok (.iload_n 3, 1) := by decide +kernel
theorem dX12_trueOf_34 : decode cX12_trueOf 34 = .ok (.iadd, 1) := by decide +kernel
theorem dX12_trueOf_35 : decode cX12_trueOf 35 = .ok (.iaload, 1) := by decide +kernel
theorem dX12_trueOf_36 : decode cX12_trueOf 36 = .ok (.aload_n 0, 1) := by decide +kernel
theorem dX12_trueOf_37 : decode cX12_trueOf 37 = .ok (.iload_n 1, 1) := by decide +kernel
theorem dX12_trueOf_38 : decode cX12_trueOf 38 = .ok (.iconst 0, 1) := by decide +kernel
theorem dX12_trueOf_39 : decode cX12_trueOf 39 = .ok (.invokevirtual 263, 3) := by decide +kernel
theorem dX12_trueOf_42 : decode cX12_trueOf 42 = .ok (.invokevirtual 257, 3) := by decide +kernel
theorem dX12_trueOf_45 : decode cX12_trueOf 45 = .ok (.aload_n 0, 1) := by decide +kernel
theorem dX12_trueOf_46 : decode cX12_trueOf 46 = .ok (.getfield 7, 3) := by decide +kernel
theorem dX12_trueOf_49 : decode cX12_trueOf 49 = .ok (.bipush 76, 2) := by decide +kernel
theorem dX12_trueOf_51 : decode cX12_trueOf 51 = .ok (.iload_n 3, 1) := by decide +kernel
theorem dX12_trueOf_52 : decode cX12_trueOf 52 = .ok (.iadd, 1) := by decide +kernel
theorem dX12_trueOf_53 : decode cX12_trueOf 53 = .ok (.iaload, 1) := by decide +kernel
theorem dX12_trueOf_54 : decode cX12_trueOf 54 = .ok (.if_icmp .ne 7, 3) := by decide +kernel
theorem dX12_trueOf_57 : decode cX12_trueOf 57 = .ok (.iconst 1, 1) := by decide +kernel
theorem dX12_trueOf_58 : decode cX12_trueOf 58 = .ok (.goto 4, 3) := by decide +kernel
theorem dX12_trueOf_61 : decode cX12_trueOf 61 = .ok (.iconst 0, 1) := by decide +kernel
theorem dX12_trueOf_62 : decode cX12_trueOf 62 = .ok (.iadd, 1) := by decide +kernel
theorem dX12_trueOf_63 : decode cX12_trueOf 63 = .ok (.istore_n 2, 1) := by decide +kernel
theorem dX12_trueOf_64 : decode cX12_trueOf 64 = .ok (.iinc 3 1, 3) := by decide +kernel
theorem dX12_trueOf_67 : decode cX12_trueOf 67 = .ok (.goto (-63), 3) := by decide +kernel
theorem dX12_trueOf_70 : decode cX12_trueOf 70 = .ok (.iload_n 2, 1) := by decide +kernel
theorem dX12_trueOf_71 : decode cX12_trueOf 71 = .ok (.ireturn, 1) := by decide +kernel
theorem dX12_writer_0 : decode cX12_writer 0 = .ok (.aload_n 0, 1) := by decide +kernel
theorem dX12_writer_1 : decode cX12_writer 1 = .ok (.aload_n 0, 1) := by decide +kernel
theorem dX12_writer_2 : decode cX12_writer 2 = .ok (.iload_n 1, 1) := by decide +kernel
theorem dX12_writer_3 : decode cX12_writer 3 = .ok (.invokevirtual 329, 3) := by decide +kernel
theorem dX12_writer_6 : decode cX12_writer 6 = .ok (.ifCond .ne 7, 3) := by decide +kernel
theorem dX12_writer_9 : decode cX12_writer 9 = .ok (.iconst 1, 1) := by decide +kernel
theorem dX12_writer_10 : decode cX12_writer 10 = .ok (.goto 18, 3) := by decide +kernel
theorem dX12_writer_13 : decode cX12_writer 13 = .ok (.iload_n 2, 1) := by decide +kernel
theorem dX12_writer_14 : decode cX12_writer 14 = .ok (.iconst 0, 1) := by decide +kernel
theorem dX12_writer_15 : decode cX12_writer 15 = .ok (.bipush 13, 2) := by decide +kernel
theorem dX12_writer_17 : decode cX12_writer 17 = .ok (.invokestatic 60, 3) := by decide +kernel
theorem dX12_writer_20 : decode cX12_writer 20 = .ok (.ifCond .ne 7, 3) := by decide +kernel
theorem dX12_writer_23 : decode cX12_writer 23 = .ok (.iconst 2, 1) := by decide +kernel
theorem dX12_writer_24 : decode cX12_writer 24 = .ok (.goto 4, 3) := by decide +kernel
theorem dX12_writer_27 : decode cX12_writer 27 = .ok (.iconst 0, 1) := by decide +kernel
theorem dX12_writer_28 : decode cX12_writer 28 = .ok (.putfield 57, 3) := by decide +kernel
theorem dX12_writer_31 : decode cX12_writer 31 = .ok (.aload_n 0, 1) := by decide +kernel
theorem dX12_writer_32 : decode cX12_writer 32 = .ok (.getfield 57, 3) := by decide +kernel
theorem dX12_writer_35 : decode cX12_writer 35 = .ok (.ifCond .le 5, 3) := by decide +kernel
theorem dX12_writer_38 : decode cX12_writer 38 = .ok (.iconst 0, 1) := by decide +kernel
theorem dX12_writer_39 : decode cX12_writer 39 = .ok (.ireturn, 1) := by decide +kernel
theorem dX12_writer_40 : decode cX12_writer 40 = .ok (.iload_n 2, 1) := by decide +kernel
theorem dX12_writer_41 : decode cX12_writer 41 = .ok (.iconst 4, 1) := by decide +kernel
theorem dX12_writer_42 : decode cX12_writer 42 = .ok (.if_icmp .ge 10, 3) := by decide +kernel
theorem dX12_writer_45 : decode cX12_writer 45 = .ok (.aload_n 0, 1) := by decide +kernel
theorem dX12_writer_46 : decode cX12_writer 46 = .ok (.iload_n 1, 1) := by decide +kernel
theorem dX12_writer_47 : decode cX12_writer 47 = .ok (.iload_n 2, 1) := by decide +kernel
theorem dX12_writer_48 : decode cX12_writer 48 = .ok (.invokevirtual 263, 3) := by decide +kernel
theorem dX12_writer_51 : decode cX12_writer 51 = .ok (.ireturn, 1) := by decide +kernel
theorem dX12_writer_52 : decode cX12_writer 52 = .ok (.iload_n 2, 1) := by decide +kernel
theorem dX12_writer_53 : decode cX12_writer 53 = .ok (.iconst 4, 1) := by decide +kernel
theorem dX12_writer_54 : decode cX12_writer 54 = .ok (.if_icmp .ne 9, 3) := by decide +kernel
theorem dX12_writer_57 : decode cX12_writer 57 = .ok (.aload_n 0, 1) := by decide +kernel
theorem dX12_writer_58 : decode cX12_writer 58 = .ok (.iload_n 1, 1) := by decide +kernel
theorem dX12_writer_59 : decode cX12_writer 59 = .ok (.invokevirtual 332, 3) := by decide +kernel
theorem dX12_writer_62 : decode cX12_writer 62 = .ok (.ireturn, 1) := by decide +kernel
theorem dX12_writer_63 : decode cX12_writer 63 = .ok (.iload_n 2, 1) := by decide +kernel
theorem dX12_writer_64 : decode cX12_writer 64 = .ok (.iconst 5, 1) := by decide +kernel
theorem dX12_writer_65 : decode cX12_writer 65 = .ok (.if_icmp .ne 14, 3) := by decide +kernel
theorem dX12_writer_68 : decode cX12_writer 68 = .ok (.aload_n 0, 1) := by decide +kernel
theorem dX12_writer_69 : decode cX12_writer 69 = .ok (.aload_n 0, 1) := by decide +kernel
theorem dX12_writer_70 : decode cX12_writer 70 = .ok (.iload_n 1, 1) := by decide +kernel
theorem dX12_writer_71 : decode cX12_writer 71 = .ok (.iconst 0, 1) := by decide +kernel
theorem dX12_writer_72 : decode cX12_writer 72 = .ok (.invokevirtual 263, 3) := by decide +kernel
theorem dX12_writer_75 : decode cX12_writer 75 = .ok (.invokevirtual 335, 3) := by decide +kernel
theorem dX12_writer_78 : decode cX12_writer 78 = .ok (.ireturn, 1) := by decide +kernel
theorem dX12_writer_79 : decode cX12_writer 79 = .ok (.iload_n 2, 1) := by decide +kernel
theorem dX12_writer_80 : decode cX12_writer 80 = .ok (.bipush 6, 2) := by decide +kernel
theorem dX12_writer_82 : decode cX12_writer 82 = .ok (.if_icmp .ne 14, 3) := by decide +kernel
theorem dX12_writer_85 : decode cX12_writer 85 = .ok (.aload_n 0, 1) := by decide +kernel
theorem dX12_writer_86 : decode cX12_writer 86 = .ok (.aload_n 0, 1) := by decide +kernel
theorem dX12_writer_87 : decode cX12_writer 87 = .ok (.iload_n 1, 1) := by decide +kernel
theorem dX12_writer_88 : decode cX12_writer 88 = .ok (.iconst 0, 1) := by decide +kernel
theorem dX12_writer_89 : decode cX12_writer 89 = .ok (.invokevirtual 263, 3) := by decide +kernel
theorem dX12_writer_92 : decode cX12_writer 92 = .ok (.invokevirtual 338, 3) := by decide +kernel
theorem dX12_writer_95 : decode cX12_writer 95 = .ok (.ireturn, 1) := by decide +kernel
theorem dX12_writer_96 : decode cX12_writer 96 = .ok (.iload_n 2, 1) := by decide +kernel
theorem dX12_writer_97 : decode cX12_writer 97 = .ok (.bipush 9, 2) := by decide +kernel
theorem dX12_writer_99 : decode cX12_writer 99 = .ok (.if_icmp .ge 27, 3) := by decide +kernel
theorem dX12_writer_102 : decode cX12_writer 102 = .ok (.aload_n 0, 1) := by decide +kernel
theorem dX12_writer_103 : decode cX12_writer 103 = .ok (.iload_n 1, 1) := by decide +kernel
theorem dX12_writer_104 : decode cX12_writer 104 = .ok (.aload_n 0, 1) := by decide +kernel
theorem dX12_writer_105 : decode cX12_writer 105 = .ok (.getfield 7, 3) := by decide +kernel
theorem dX12_writer_108 : decode cX12_writer 108 = .ok (.bipush 7, 2) := by decide +kernel
theorem dX12_writer_110 : decode cX12_writer 110 = .ok (.iaload, 1) := by decide +kernel
theorem dX12_writer_111 : decode cX12_writer 111 = .ok (.iload_n 2, 1) := by decide +kernel
theorem dX12_writer_112 : decode cX12_writer 112 = .ok (.bipush 7, 2) := by decide +kernel
theorem dX12_writer_114 : decode cX12_writer 114 = .ok (.if_icmp .ne 7, 3) := by decide +kernel
theorem dX12_writer_117 : decode cX12_writer 117 = .ok (.iconst 1, 1) := by decide +kernel
theorem dX12_writer_118 : decode cX12_writer 118 = .ok (.goto 4, 3) := by decide +kernel
theorem dX12_writer_121 : decode cX12_writer 121 = .ok (.iconst 0, 1) := by decide +kernel
theorem dX12_writer_122 : decode cX12_writer 122 = .ok (.invokevirtual 325, 3) := by decide +kernel
theorem dX12_writer_125 : decode cX12_writer 125 = .ok (.ireturn, 1) := by decide +kernel
theorem dX12_writer_126 : decode cX12_writer 126 = .ok (.iload_n 2, 1) := by decide +kernel
theorem dX12_writer_127 : decode cX12_writer 127 = .ok (.bipush 9, 2) := by decide +kernel
theorem dX12_writer_129 : decode cX12_writer 129 = .ok (.if_icmp .ne 9, 3) := by decide +kernel
theorem dX12_writer_132 : decode cX12_writer 132 = .ok (.aload_n 0, 1) := by decide +kernel
theorem dX12_writer_133 : decode cX12_writer 133 = .ok (.iload_n 1, 1) := by decide +kernel
theorem dX12_writer_134 : decode cX12_writer 134 = .ok (.invokevirtual 341, 3) := by decide +kernel
theorem dX12_writer_137 : decode cX12_writer 137 = .ok (.ireturn, 1) := by decide +kernel
theorem dX12_writer_138 : decode cX12_writer 138 = .ok (.iload_n 2, 1) := by decide +kernel
theorem dX12_writer_139 : decode cX12_writer 139 = .ok (.bipush 10, 2) := by decide +kernel
theorem dX12_writer_141 : decode cX12_writer 141 = .ok (.if_icmp .ne 9, 3) := by decide +kernel
theorem dX12_writer_144 : decode cX12_writer 144 = .ok (.aload_n 0, 1) := by decide +kernel
theorem dX12_writer_145 : decode cX12_writer 145 = .ok (.iload_n 1, 1) := by decide +kernel
theorem dX12_writer_146 : decode cX12_writer 146 = .ok (.invokevirtual 344, 3) := by decide +kernel
theorem dX12_writer_149 : decode cX12_writer 149 = .ok (.ireturn, 1) := by decide +kernel
theorem dX12_writer_150 : decode cX12_writer 150 = .ok (.iload_n 2, 1) := by decide +kernel
theorem dX12_writer_151 : decode cX12_writer 151 = .ok (.bipush 11, 2) := by decide +kernel
theorem dX12_writer_153 : decode cX12_writer 153 = .ok (.if_icmp .ne 18, 3) := by decide +kernel
theorem dX12_writer_156 : decode cX12_writer 156 = .ok (.aload_n 0, 1) := by decide +kernel
theorem dX12_writer_157 : decode cX12_writer 157 = .ok (.getfield 7, 3) := by decide +kernel
theorem dX12_writer_160 : decode cX12_writer 160 = .ok (.bipush 6, 2) := by decide +kernel
theorem dX12_writer_162 : decode cX12_writer 162 = .ok (.iaload, 1) := by decide +kernel
theorem dX12_writer_163 : decode cX12_writer 163 = .ok (.aload_n 0, 1) := by decide +kernel
theorem dX12_writer_164 : decode cX12_writer 164 = .ok (.iload_n 1, 1) := by decide +kernel
theorem dX12_writer_165 : decode cX12_writer 165 = .ok (.iconst 1, 1) := by decide +kernel
theorem dX12_writer_166 : decode cX12_writer 166 = .ok (.invokevirtual 302, 3) := by decide +kernel
theorem dX12_writer_169 : decode cX12_writer 169 = .ok (.isub, 1) := by decide +kernel
theorem dX12_writer_170 : decode cX12_writer 170 = .ok (.ireturn, 1) := by decide +kernel
theorem dX12_writer_171 : decode cX12_writer 171 = .ok (.iload_n 2, 1) := by decide +kernel
theorem dX12_writer_172 : decode cX12_writer 172 = .ok (.bipush 12, 2) := by decide +kernel
theorem dX12_writer_174 : decode cX12_writer 174 = .ok (.if_icmp .ne 9, 3) := by decide +kernel
theorem dX12_writer_177 : decode cX12_writer 177 = .ok (.aload_n 0, 1) := by decide +kernel
theorem dX12_writer_178 : decode cX12_writer 178 = .ok (.iload_n 1, 1) := by decide +kernel
theorem dX12_writer_179 : decode cX12_writer 179 = .ok (.invokevirtual 347, 3) := by decide +kernel
theorem dX12_writer_182 : decode cX12_writer 182 = .ok (.ireturn, 1) := by decide +kernel
theorem dX12_writer_183 : decode cX12_writer 183 = .ok (.aload_n 0, 1) := by decide +kernel
theorem dX12_writer_184 : decode cX12_writer 184 = .ok (.iconst 1, 1) := by decide +kernel
theorem dX12_writer_185 : decode cX12_writer 185 = .ok (.invokevirtual 350, 3) := by decide +kernel
theorem dX12_writer_188 : decode cX12_writer 188 = .ok (.ifCond .ne 7, 3) := by decide +kernel
theorem dX12_writer_191 : decode cX12_writer 191 = .ok (.iconst 0, 1) := by decide +kernel
theorem dX12_writer_192 : decode cX12_writer 192 = .ok (.goto 18, 3) := by decide +kernel
theorem dX12_writer_195 : decode cX12_writer 195 = .ok (.bipush 100, 2) := by decide +kernel
theorem dX12_writer_197 : decode cX12_writer 197 = .ok (.aload_n 0, 1) := by decide +kernel
theorem dX12_writer_198 : decode cX12_writer 198 = .ok (.iload_n 1, 1) := by decide +kernel
theorem dX12_writer_199 : decode cX12_writer 199 = .ok (.iconst 1, 1) := by decide +kernel
theorem dX12_writer_200 : decode cX12_writer 200 = .ok (.invokevirtual 302, 3) := by decide +kernel
theorem dX12_writer_203 : decode cX12_writer 203 = .ok (.imul, 1) := by decide +kernel
theorem dX12_writer_204 : decode cX12_writer 204 = .ok (.aload_n 0, 1) := by decide +kernel
theorem dX12_writer_205 : decode cX12_writer 205 = .ok (.iconst 1, 1) := by decide +kernel
theorem dX12_writer_206 : decode cX12_writer 206 = .ok (.invokevirtual 350, 3) := by decide +kernel
theorem dX12_writer_209 : decode cX12_writer 209 = .ok (.idiv, 1) := by decide +kernel
theorem dX12_writer_210 : decode cX12_writer 210 = .ok (.ireturn, 1) := by decide +kernel
theorem dX12_speech_0 : decode cX12_speech 0 = .ok (.aload_n 0, 1) := by decide +kernel
theorem dX12_speech_1 : decode cX12_speech 1 = .ok (.iconst 0, 1) := by decide +kernel
theorem dX12_speech_2 : decode cX12_speech 2 = .ok (.putfield 57, 3) := by decide +kernel
theorem dX12_speech_5 : decode cX12_speech 5 = .ok (.iload_n 1, 1) := by decide +kernel
theorem dX12_speech_6 : decode cX12_speech 6 = .ok (.iconst 0, 1) := by decide +kernel
theorem dX12_speech_7 : decode cX12_speech 7 = .ok (.aload_n 0, 1) := by decide +kernel
theorem dX12_speech_8 : decode cX12_speech 8 = .ok (.getfield 7, 3) := by decide +kernel
theorem dX12_speech_11 : decode cX12_speech 11 = .ok (.iconst 5, 1) := by decide +kernel
theorem dX12_speech_12 : decode cX12_speech 12 = .ok (.iaload, 1) := by decide +kernel
theorem dX12_speech_13 : decode cX12_speech 13 = .ok (.iconst 1, 1) := by decide +kernel
theorem dX12_speech_14 : decode cX12_speech 14 = .ok (.isub, 1) := by decide +kernel
theorem dX12_speech_15 : decode cX12_speech 15 = .ok (.invokestatic 60, 3) := by decide +kernel
theorem dX12_speech_18 : decode cX12_speech 18 = .ok (.ifCond .eq 15, 3) := by decide +kernel
theorem dX12_speech_21 : decode cX12_speech 21 = .ok (.aload_n 0, 1) := by decide +kernel
theorem dX12_speech_22 : decode cX12_speech 22 = .ok (.getfield 7, 3) := by decide +kernel
theorem dX12_speech_25 : decode cX12_speech 25 = .ok (.bipush 76, 2) := by decide +kernel
theorem dX12_speech_27 : decode cX12_speech 27 = .ok (.iload_n 1, 1) := by decide +kernel
theorem dX12_speech_28 : decode cX12_speech 28 = .ok (.iadd, 1) := by decide +kernel
theorem dX12_speech_29 : decode cX12_speech 29 = .ok (.iaload, 1) := by decide +kernel
theorem dX12_speech_30 : decode cX12_speech 30 = .ok (.goto 4, 3) := by decide +kernel
theorem dX12_speech_33 : decode cX12_speech 33 = .ok (.iconst (-1), 1) := by decide +kernel
theorem dX12_speech_34 : decode cX12_speech 34 = .ok (.ireturn, 1) := by decide +kernel
theorem dX12_page_0 : decode cX12_page 0 = .ok (.aload_n 0, 1) := by decide +kernel
theorem dX12_page_1 : decode cX12_page 1 = .ok (.aload_n 0, 1) := by decide +kernel
theorem dX12_page_2 : decode cX12_page 2 = .ok (.iload_n 1, 1) := by decide +kernel
theorem dX12_page_3 : decode cX12_page 3 = .ok (.invokevirtual 329, 3) := by decide +kernel
theorem dX12_page_6 : decode cX12_page 6 = .ok (.ifCond .ne 7, 3) := by decide +kernel
theorem dX12_page_9 : decode cX12_page 9 = .ok (.iconst 1, 1) := by decide +kernel
theorem dX12_page_10 : decode cX12_page 10 = .ok (.goto 4, 3) := by decide +kernel
theorem dX12_page_13 : decode cX12_page 13 = .ok (.iconst 0, 1) := by decide +kernel
theorem dX12_page_14 : decode cX12_page 14 = .ok (.putfield 57, 3) := by decide +kernel
theorem dX12_page_17 : decode cX12_page 17 = .ok (.aload_n 0, 1) := by decide +kernel
theorem dX12_page_18 : decode cX12_page 18 = .ok (.getfield 57, 3) := by decide +kernel
theorem dX12_page_21 : decode cX12_page 21 = .ok (.ifCond .le 5, 3) := by decide +kernel
theorem dX12_page_24 : decode cX12_page 24 = .ok (.iconst 0, 1) := by decide +kernel
theorem dX12_page_25 : decode cX12_page 25 = .ok (.ireturn, 1) := by decide +kernel
theorem dX12_page_26 : decode cX12_page 26 = .ok (.iload_n 2, 1) := by decide +kernel
theorem dX12_page_27 : decode cX12_page 27 = .ok (.iconst 0, 1) := by decide +kernel
theorem dX12_page_28 : decode cX12_page 28 = .ok (.aload_n 0, 1) := by decide +kernel
theorem dX12_page_29 : decode cX12_page 29 = .ok (.getfield 7, 3) := by decide +kernel
theorem dX12_page_32 : decode cX12_page 32 = .ok (.bipush 6, 2) := by decide +kernel
theorem dX12_page_34 : decode cX12_page 34 = .ok (.iaload, 1) := by decide +kernel
theorem dX12_page_35 : decode cX12_page 35 = .ok (.iconst 1, 1) := by decide +kernel
theorem dX12_page_36 : decode cX12_page 36 = .ok (.isub, 1) := by decide +kernel
theorem dX12_page_37 : decode cX12_page 37 = .ok (.invokestatic 60, 3) := by decide +kernel
theorem dX12_page_40 : decode cX12_page 40 = .ok (.ifCond .eq 12, 3) := by decide +kernel
theorem dX12_page_43 : decode cX12_page 43 = .ok (.aload_n 0, 1) := by decide +kernel
theorem dX12_page_44 : decode cX12_page 44 = .ok (.iload_n 1, 1) := by decide +kernel
theorem dX12_page_45 : decode cX12_page 45 = .ok (.iload_n 2, 1) := by decide +kernel
theorem dX12_page_46 : decode cX12_page 46 = .ok (.invokevirtual 299, 3) := by decide +kernel
theorem dX12_page_49 : decode cX12_page 49 = .ok (.goto 4, 3) := by decide +kernel
theorem dX12_page_52 : decode cX12_page 52 = .ok (.iconst (-1), 1) := by decide +kernel
theorem dX12_page_53 : decode cX12_page 53 = .ok (.ireturn, 1) := by decide +kernel
theorem dX12_areBoth_0 : decode cX12_areBoth 0 = .ok (.aload_n 0, 1) := by decide +kernel
theorem dX12_areBoth_1 : decode cX12_areBoth 1 = .ok (.aload_n 0, 1) := by decide +kernel
theorem dX12_areBoth_2 : decode cX12_areBoth 2 = .ok (.iload_n 1, 1) := by decide +kernel
theorem dX12_areBoth_3 : decode cX12_areBoth 3 = .ok (.invokevirtual 329, 3) := by decide +kernel
theorem dX12_areBoth_6 : decode cX12_areBoth 6 = .ok (.ifCond .eq 11, 3) := by decide +kernel
theorem dX12_areBoth_9 : decode cX12_areBoth 9 = .ok (.aload_n 0, 1) := by decide +kernel
theorem dX12_areBoth_10 : decode cX12_areBoth 10 = .ok (.iload_n 2, 1) := by decide +kernel
theorem dX12_areBoth_11 : decode cX12_areBoth 11 = .ok (.invokevirtual 316, 3) := by decide +kernel
theorem dX12_areBoth_14 : decode cX12_areBoth 14 = .ok (.ifCond .ne 7, 3) := by decide +kernel
theorem dX12_areBoth_17 : decode cX12_areBoth 17 = .ok (.iconst 1, 1) := by decide +kernel
theorem dX12_areBoth_18 : decode cX12_areBoth 18 = .ok (.goto 4, 3) := by decide +kernel
theorem dX12_areBoth_21 : decode cX12_areBoth 21 = .ok (.iconst 0, 1) := by decide +kernel
theorem dX12_areBoth_22 : decode cX12_areBoth 22 = .ok (.putfield 57, 3) := by decide +kernel
theorem dX12_areBoth_25 : decode cX12_areBoth 25 = .ok (.return_, 1) := by decide +kernel
theorem dX12_strokes_0 : decode cX12_strokes 0 = .ok (.aload_n 0, 1) := by decide +kernel
theorem dX12_strokes_1 : decode cX12_strokes 1 = .ok (.iload_n 1, 1) := by decide +kernel
theorem dX12_strokes_2 : decode cX12_strokes 2 = .ok (.iload_n 2, 1) := by decide +kernel
theorem dX12_strokes_3 : decode cX12_strokes 3 = .ok (.invokevirtual 353, 3) := by decide +kernel
theorem dX12_strokes_6 : decode cX12_strokes 6 = .ok (.aload_n 0, 1) := by decide +kernel
theorem dX12_strokes_7 : decode cX12_strokes 7 = .ok (.getfield 57, 3) := by decide +kernel
theorem dX12_strokes_10 : decode cX12_strokes 10 = .ok (.ifCond .le 7, 3) := by decide +kernel
theorem dX12_strokes_13 : decode cX12_strokes 13 = .ok (.iconst 0, 1) := by decide +kernel
theorem dX12_strokes_14 : decode cX12_strokes 14 = .ok (.goto 14, 3) := by decide +kernel
theorem dX12_strokes_17 : decode cX12_strokes 17 = .ok (.aload_n 0, 1) := by decide +kernel
theorem dX12_strokes_18 : decode cX12_strokes 18 = .ok (.iload_n 2, 1) := by decide +kernel
theorem dX12_strokes_19 : decode cX12_strokes 19 = .ok (.aload_n 0, 1) := by decide +kernel
theorem dX12_strokes_20 : decode cX12_strokes 20 = .ok (.iload_n 1, 1) := by decide +kernel
theorem dX12_strokes_21 : decode cX12_strokes 21 = .ok (.iconst 0, 1) := by decide +kernel
theorem dX12_strokes_22 : decode cX12_strokes 22 = .ok (.invokevirtual 263, 3) := by decide +kernel
theorem dX12_strokes_25 : decode cX12_strokes 25 = .ok (.invokevirtual 260, 3) := by decide +kernel
theorem dX12_strokes_28 : decode cX12_strokes 28 = .ok (.ireturn, 1) := by decide +kernel
theorem dX12_mark_0 : decode cX12_mark 0 = .ok (.aload_n 0, 1) := by decide +kernel
theorem dX12_mark_1 : decode cX12_mark 1 = .ok (.iload_n 1, 1) := by decide +kernel
theorem dX12_mark_2 : decode cX12_mark 2 = .ok (.iload_n 2, 1) := by decide +kernel
theorem dX12_mark_3 : decode cX12_mark 3 = .ok (.invokevirtual 353, 3) := by decide +kernel
theorem dX12_mark_6 : decode cX12_mark 6 = .ok (.aload_n 0, 1) := by decide +kernel
theorem dX12_mark_7 : decode cX12_mark 7 = .ok (.getfield 57, 3) := by decide +kernel
theorem dX12_mark_10 : decode cX12_mark 10 = .ok (.ifCond .le 5, 3) := by decide +kernel
theorem dX12_mark_13 : decode cX12_mark 13 = .ok (.iconst 0, 1) := by decide +kernel
theorem dX12_mark_14 : decode cX12_mark 14 = .ok (.ireturn, 1) := by decide +kernel
theorem dX12_mark_15 : decode cX12_mark 15 = .ok (.iconst 0, 1) := by decide +kernel
theorem dX12_mark_16 : decode cX12_mark 16 = .ok (.istore 4, 2) := by decide +kernel
theorem dX12_mark_18 : decode cX12_mark 18 = .ok (.iconst 0, 1) := by decide +kernel
theorem dX12_mark_19 : decode cX12_mark 19 = .ok (.istore 5, 2) := by decide +kernel
theorem dX12_mark_21 : decode cX12_mark 21 = .ok (.iload 5, 2) := by decide +kernel
theorem dX12_mark_23 : decode cX12_mark 23 = .ok (.aload_n 0, 1) := by decide +kernel
theorem dX12_mark_24 : decode cX12_mark 24 = .ok (.iload_n 2, 1) := by decide +kernel
theorem dX12_mark_25 : decode cX12_mark 25 = .ok (.bipush 6, 2) := by decide +kernel
theorem dX12_mark_27 : decode cX12_mark 27 = .ok (.invokevirtual 245, 3) := by decide +kernel
theorem dX12_mark_30 : decode cX12_mark 30 = .ok (.if_icmp .ge 48, 3) := by decide +kernel
theorem dX12_mark_33 : decode cX12_mark 33 = .ok (.aload_n 0, 1) := by decide +kernel
theorem dX12_mark_34 : decode cX12_mark 34 = .ok (.iload_n 1, 1) := by decide +kernel
theorem dX12_mark_35 : decode cX12_mark 35 = .ok (.iconst 0, 1) := by decide +kernel
theorem dX12_mark_36 : decode cX12_mark 36 = .ok (.invokevirtual 263, 3) := by decide +kernel
theorem dX12_mark_39 : decode cX12_mark 39 = .ok (.aload_n 0, 1) := by decide +kernel
theorem dX12_mark_40 : decode cX12_mark 40 = .ok (.iload_n 2, 1) := by decide +kernel
theorem dX12_mark_41 : decode cX12_mark 41 = .ok (.iload 5, 2) := by decide +kernel
theorem dX12_mark_43 : decode cX12_mark 43 = .ok (.invokevirtual 245, 3) := by decide +kernel
theorem dX12_mark_46 : decode cX12_mark 46 = .ok (.invokestatic 248, 3) := by decide +kernel
theorem dX12_mark_49 : decode cX12_mark 49 = .ok (.ifCond .eq 6, 3) := by decide +kernel
theorem dX12_mark_52 : decode cX12_mark 52 = .ok (.goto 20, 3) := by decide +kernel
theorem dX12_mark_55 : decode cX12_mark 55 = .ok (.iload 4, 2) := by decide +kernel
theorem dX12_mark_57 : decode cX12_mark 57 = .ok (.iload_n 3, 1) := by decide +kernel
theorem dX12_mark_58 : decode cX12_mark 58 = .ok (.if_icmp .ne 11, 3) := by decide +kernel
theorem dX12_mark_61 : decode cX12_mark 61 = .ok (.aload_n 0, 1) := by decide +kernel
theorem dX12_mark_62 : decode cX12_mark 62 = .ok (.iload_n 2, 1) := by decide +kernel
theorem dX12_mark_63 : decode cX12_mark 63 = .ok (.iload 5, 2) := by decide +kernel
theorem dX12_mark_65 : decode cX12_mark 65 = .ok (.invokevirtual 245, 3) := by decide +kernel
theorem dX12_mark_68 : decode cX12_mark 68 = .ok (.ireturn, 1) := by decide +kernel
theorem dX12_mark_69 : decode cX12_mark 69 = .ok (.iinc 4 1, 3) := by decide +kernel
theorem dX12_mark_72 : decode cX12_mark 72 = .ok (.iinc 5 1, 3) := by decide +kernel
theorem dX12_mark_75 : decode cX12_mark 75 = .ok (.goto (-54), 3) := by decide +kernel
theorem dX12_mark_78 : decode cX12_mark 78 = .ok (.iconst (-1), 1) := by decide +kernel
theorem dX12_mark_79 : decode cX12_mark 79 = .ok (.ireturn, 1) := by decide +kernel
theorem dX12_alike_0 : decode cX12_alike 0 = .ok (.aload_n 0, 1) := by decide +kernel
theorem dX12_alike_1 : decode cX12_alike 1 = .ok (.iload_n 1, 1) := by decide +kernel
theorem dX12_alike_2 : decode cX12_alike 2 = .ok (.iload_n 2, 1) := by decide +kernel
theorem dX12_alike_3 : decode cX12_alike 3 = .ok (.invokevirtual 353, 3) := by decide +kernel
theorem dX12_alike_6 : decode cX12_alike 6 = .ok (.aload_n 0, 1) := by decide +kernel
theorem dX12_alike_7 : decode cX12_alike 7 = .ok (.getfield 57, 3) := by decide +kernel
theorem dX12_alike_10 : decode cX12_alike 10 = .ok (.ifCond .le 7, 3) := by decide +kernel
theorem dX12_alike_13 : decode cX12_alike 13 = .ok (.iconst 0, 1) := by decide +kernel
theorem dX12_alike_14 : decode cX12_alike 14 = .ok (.goto 14, 3) := by decide +kernel
theorem dX12_alike_17 : decode cX12_alike 17 = .ok (.aload_n 0, 1) := by decide +kernel
theorem dX12_alike_18 : decode cX12_alike 18 = .ok (.iload_n 2, 1) := by decide +kernel
theorem dX12_alike_19 : decode cX12_alike 19 = .ok (.aload_n 0, 1) := by decide +kernel
theorem dX12_alike_20 : decode cX12_alike 20 = .ok (.iload_n 1, 1) := by decide +kernel
theorem dX12_alike_21 : decode cX12_alike 21 = .ok (.iconst 0, 1) := by decide +kernel
theorem dX12_alike_22 : decode cX12_alike 22 = .ok (.invokevirtual 263, 3) := by decide +kernel
theorem dX12_alike_25 : decode cX12_alike 25 = .ok (.invokevirtual 254, 3) := by decide +kernel
theorem dX12_alike_28 : decode cX12_alike 28 = .ok (.ireturn, 1) := by decide +kernel
theorem dX12_reads_0 : decode cX12_reads 0 = .ok (.aload_n 0, 1) := by decide +kernel
theorem dX12_reads_1 : decode cX12_reads 1 = .ok (.iload_n 1, 1) := by decide +kernel
theorem dX12_reads_2 : decode cX12_reads 2 = .ok (.iload_n 2, 1) := by decide +kernel
theorem dX12_reads_3 : decode cX12_reads 3 = .ok (.invokevirtual 353, 3) := by decide +kernel
theorem dX12_reads_6 : decode cX12_reads 6 = .ok (.aload_n 0, 1) := by decide +kernel
theorem dX12_reads_7 : decode cX12_reads 7 = .ok (.getfield 57, 3) := by decide +kernel
theorem dX12_reads_10 : decode cX12_reads 10 = .ok (.ifCond .le 7, 3) := by decide +kernel
theorem dX12_reads_13 : decode cX12_reads 13 = .ok (.iconst 0, 1) := by decide +kernel
theorem dX12_reads_14 : decode cX12_reads 14 = .ok (.goto 14, 3) := by decide +kernel
theorem dX12_reads_17 : decode cX12_reads 17 = .ok (.aload_n 0, 1) := by decide +kernel
theorem dX12_reads_18 : decode cX12_reads 18 = .ok (.iload_n 2, 1) := by decide +kernel
theorem dX12_reads_19 : decode cX12_reads 19 = .ok (.aload_n 0, 1) := by decide +kernel
theorem dX12_reads_20 : decode cX12_reads 20 = .ok (.iload_n 1, 1) := by decide +kernel
theorem dX12_reads_21 : decode cX12_reads 21 = .ok (.iconst 0, 1) := by decide +kernel
theorem dX12_reads_22 : decode cX12_reads 22 = .ok (.invokevirtual 263, 3) := by decide +kernel
theorem dX12_reads_25 : decode cX12_reads 25 = .ok (.invokevirtual 257, 3) := by decide +kernel
theorem dX12_reads_28 : decode cX12_reads 28 = .ok (.ireturn, 1) := by decide +kernel
theorem dX12_keepsUp_0 : decode cX12_keepsUp 0 = .ok (.aload_n 0, 1) := by decide +kernel
theorem dX12_keepsUp_1 : decode cX12_keepsUp 1 = .ok (.iload_n 1, 1) := by decide +kernel
theorem dX12_keepsUp_2 : decode cX12_keepsUp 2 = .ok (.iload_n 2, 1) := by decide +kernel
theorem dX12_keepsUp_3 : decode cX12_keepsUp 3 = .ok (.invokevirtual 353, 3) := by decide +kernel
theorem dX12_keepsUp_6 : decode cX12_keepsUp 6 = .ok (.aload_n 0, 1) := by decide +kernel
theorem dX12_keepsUp_7 : decode cX12_keepsUp 7 = .ok (.getfield 57, 3) := by decide +kernel
theorem dX12_keepsUp_10 : decode cX12_keepsUp 10 = .ok (.ifCond .ne 16, 3) := by decide +kernel
theorem dX12_keepsUp_13 : decode cX12_keepsUp 13 = .ok (.aload_n 0, 1) := by decide +kernel
theorem dX12_keepsUp_14 : decode cX12_keepsUp 14 = .ok (.iload_n 1, 1) := by decide +kernel
theorem dX12_keepsUp_15 : decode cX12_keepsUp 15 = .ok (.iload_n 2, 1) := by decide +kernel
theorem dX12_keepsUp_16 : decode cX12_keepsUp 16 = .ok (.invokevirtual 277, 3) := by decide +kernel
theorem dX12_keepsUp_19 : decode cX12_keepsUp 19 = .ok (.ifCond .eq 7, 3) := by decide +kernel
theorem dX12_keepsUp_22 : decode cX12_keepsUp 22 = .ok (.iconst 1, 1) := by decide +kernel
theorem dX12_keepsUp_23 : decode cX12_keepsUp 23 = .ok (.goto 4, 3) := by decide +kernel
theorem dX12_keepsUp_26 : decode cX12_keepsUp 26 = .ok (.iconst 0, 1) := by decide +kernel
theorem dX12_keepsUp_27 : decode cX12_keepsUp 27 = .ok (.ireturn, 1) := by decide +kernel
theorem dX12_slips_0 : decode cX12_slips 0 = .ok (.aload_n 0, 1) := by decide +kernel
theorem dX12_slips_1 : decode cX12_slips 1 = .ok (.iload_n 1, 1) := by decide +kernel
theorem dX12_slips_2 : decode cX12_slips 2 = .ok (.iload_n 2, 1) := by decide +kernel
theorem dX12_slips_3 : decode cX12_slips 3 = .ok (.invokevirtual 353, 3) := by decide +kernel
theorem dX12_slips_6 : decode cX12_slips 6 = .ok (.aload_n 0, 1) := by decide +kernel
theorem dX12_slips_7 : decode cX12_slips 7 = .ok (.getfield 57, 3) := by decide +kernel
theorem dX12_slips_10 : decode cX12_slips 10 = .ok (.ifCond .le 7, 3) := by decide +kernel
theorem dX12_slips_13 : decode cX12_slips 13 = .ok (.iconst 0, 1) := by decide +kernel
theorem dX12_slips_14 : decode cX12_slips 14 = .ok (.goto 9, 3) := by decide +kernel
theorem dX12_slips_17 : decode cX12_slips 17 = .ok (.aload_n 0, 1) := by decide +kernel
theorem dX12_slips_18 : decode cX12_slips 18 = .ok (.iload_n 1, 1) := by decide +kernel
theorem dX12_slips_19 : decode cX12_slips 19 = .ok (.iload_n 2, 1) := by decide +kernel
theorem dX12_slips_20 : decode cX12_slips 20 = .ok (.invokevirtual 280, 3) := by decide +kernel
theorem dX12_slips_23 : decode cX12_slips 23 = .ok (.ireturn, 1) := by decide +kernel
theorem dX12_remembers_0 : decode cX12_remembers 0 = .ok (.aload_n 0, 1) := by decide +kernel
theorem dX12_remembers_1 : decode cX12_remembers 1 = .ok (.getfield 190, 3) := by decide +kernel
theorem dX12_remembers_4 : decode cX12_remembers 4 = .ok (.bipush 12, 2) := by decide +kernel
theorem dX12_remembers_6 : decode cX12_remembers 6 = .ok (.if_icmp .ne 44, 3) := by decide +kernel
theorem dX12_remembers_9 : decode cX12_remembers 9 = .ok (.iconst 0, 1) := by decide +kernel
theorem dX12_remembers_10 : decode cX12_remembers 10 = .ok (.istore_n 1, 1) := by decide +kernel
theorem dX12_remembers_11 : decode cX12_remembers 11 = .ok (.iload_n 1, 1) := by decide +kernel
theorem dX12_remembers_12 : decode cX12_remembers 12 = .ok (.sipush 5016, 3) := by decide +kernel
theorem dX12_remembers_15 : decode cX12_remembers 15 = .ok (.if_icmp .ge 25, 3) := by decide +kernel
theorem dX12_remembers_18 : decode cX12_remembers 18 = .ok (.aload_n 0, 1) := by decide +kernel
theorem dX12_remembers_19 : decode cX12_remembers 19 = .ok (.getfield 19, 3) := by decide +kernel
theorem dX12_remembers_22 : decode cX12_remembers 22 = .ok (.iload_n 1, 1) := by decide +kernel
theorem dX12_remembers_23 : decode cX12_remembers 23 = .ok (.aload_n 0, 1) := by decide +kernel
theorem dX12_remembers_24 : decode cX12_remembers 24 = .ok (.getfield 19, 3) := by decide +kernel
theorem dX12_remembers_27 : decode cX12_remembers 27 = .ok (.iload_n 1, 1) := by decide +kernel
theorem dX12_remembers_28 : decode cX12_remembers 28 = .ok (.sipush 456, 3) := by decide +kernel
theorem dX12_remembers_31 : decode cX12_remembers 31 = .ok (.iadd, 1) := by decide +kernel
theorem dX12_remembers_32 : decode cX12_remembers 32 = .ok (.iaload, 1) := by decide +kernel
theorem dX12_remembers_33 : decode cX12_remembers 33 = .ok (.iastore, 1) := by decide +kernel
theorem dX12_remembers_34 : decode cX12_remembers 34 = .ok (.iinc 1 1, 3) := by decide +kernel
theorem dX12_remembers_37 : decode cX12_remembers 37 = .ok (.goto (-26), 3) := by decide +kernel
theorem dX12_remembers_40 : decode cX12_remembers 40 = .ok (.aload_n 0, 1) := by decide +kernel
theorem dX12_remembers_41 : decode cX12_remembers 41 = .ok (.dup, 1) := by decide +kernel
theorem dX12_remembers_42 : decode cX12_remembers 42 = .ok (.getfield 190, 3) := by decide +kernel
theorem dX12_remembers_45 : decode cX12_remembers 45 = .ok (.iconst 1, 1) := by decide +kernel
theorem dX12_remembers_46 : decode cX12_remembers 46 = .ok (.isub, 1) := by decide +kernel
theorem dX12_remembers_47 : decode cX12_remembers 47 = .ok (.putfield 190, 3) := by decide +kernel
theorem dX12_remembers_50 : decode cX12_remembers 50 = .ok (.iconst 0, 1) := by decide +kernel
theorem dX12_remembers_51 : decode cX12_remembers 51 = .ok (.istore_n 1, 1) := by decide +kernel
theorem dX12_remembers_52 : decode cX12_remembers 52 = .ok (.iload_n 1, 1) := by decide +kernel
theorem dX12_remembers_53 : decode cX12_remembers 53 = .ok (.sipush 456, 3) := by decide +kernel
theorem dX12_remembers_56 : decode cX12_remembers 56 = .ok (.if_icmp .ge 30, 3) := by decide +kernel
theorem dX12_remembers_59 : decode cX12_remembers 59 = .ok (.aload_n 0, 1) := by decide +kernel
theorem dX12_remembers_60 : decode cX12_remembers 60 = .ok (.getfield 19, 3) := by decide +kernel
theorem dX12_remembers_63 : decode cX12_remembers 63 = .ok (.sipush 456, 3) := by decide +kernel
theorem dX12_remembers_66 : decode cX12_remembers 66 = .ok (.aload_n 0, 1) := by decide +kernel
theorem dX12_remembers_67 : decode cX12_remembers 67 = .ok (.getfield 190, 3) := by decide +kernel
theorem dX12_remembers_70 : decode cX12_remembers 70 = .ok (.imul, 1) := by decide +kernel
theorem dX12_remembers_71 : decode cX12_remembers 71 = .ok (.iload_n 1, 1) := by decide +kernel
theorem dX12_remembers_72 : decode cX12_remembers 72 = .ok (.iadd, 1) := by decide +kernel
theorem dX12_remembers_73 : decode cX12_remembers 73 = .ok (.aload_n 0, 1) := by decide +kernel
theorem dX12_remembers_74 : decode cX12_remembers 74 = .ok (.getfield 7, 3) := by decide +kernel
theorem dX12_remembers_77 : decode cX12_remembers 77 = .ok (.iload_n 1, 1) := by decide +kernel
theorem dX12_remembers_78 : decode cX12_remembers 78 = .ok (.iaload, 1) := by decide +kernel
theorem dX12_remembers_79 : decode cX12_remembers 79 = .ok (.iastore, 1) := by decide +kernel
theorem dX12_remembers_80 : decode cX12_remembers 80 = .ok (.iinc 1 1, 3) := by decide +kernel
theorem dX12_remembers_83 : decode cX12_remembers 83 = .ok (.goto (-31), 3) := by decide +kernel
theorem dX12_remembers_86 : decode cX12_remembers 86 = .ok (.aload_n 0, 1) := by decide +kernel
theorem dX12_remembers_87 : decode cX12_remembers 87 = .ok (.dup, 1) := by decide +kernel
theorem dX12_remembers_88 : decode cX12_remembers 88 = .ok (.getfield 190, 3) := by decide +kernel
theorem dX12_remembers_91 : decode cX12_remembers 91 = .ok (.iconst 1, 1) := by decide +kernel
theorem dX12_remembers_92 : decode cX12_remembers 92 = .ok (.iadd, 1) := by decide +kernel
theorem dX12_remembers_93 : decode cX12_remembers 93 = .ok (.putfield 190, 3) := by decide +kernel
theorem dX12_remembers_96 : decode cX12_remembers 96 = .ok (.return_, 1) := by decide +kernel
theorem dX12_sets_0 : decode cX12_sets 0 = .ok (.aload_n 0, 1) := by decide +kernel
theorem dX12_sets_1 : decode cX12_sets 1 = .ok (.invokevirtual 356, 3) := by decide +kernel
theorem dX12_sets_4 : decode cX12_sets 4 = .ok (.aload_n 0, 1) := by decide +kernel
theorem dX12_sets_5 : decode cX12_sets 5 = .ok (.getfield 7, 3) := by decide +kernel
theorem dX12_sets_8 : decode cX12_sets 8 = .ok (.iload_n 1, 1) := by decide +kernel
theorem dX12_sets_9 : decode cX12_sets 9 = .ok (.iaload, 1) := by decide +kernel
theorem dX12_sets_10 : decode cX12_sets 10 = .ok (.istore_n 3, 1) := by decide +kernel
theorem dX12_sets_11 : decode cX12_sets 11 = .ok (.aload_n 0, 1) := by decide +kernel
theorem dX12_sets_12 : decode cX12_sets 12 = .ok (.getfield 7, 3) := by decide +kernel
theorem dX12_sets_15 : decode cX12_sets 15 = .ok (.iload_n 1, 1) := by decide +kernel
theorem dX12_sets_16 : decode cX12_sets 16 = .ok (.iload_n 2, 1) := by decide +kernel
theorem dX12_sets_17 : decode cX12_sets 17 = .ok (.iastore, 1) := by decide +kernel
theorem dX12_sets_18 : decode cX12_sets 18 = .ok (.iload_n 3, 1) := by decide +kernel
theorem dX12_sets_19 : decode cX12_sets 19 = .ok (.ireturn, 1) := by decide +kernel
theorem dX12_minutes_0 : decode cX12_minutes 0 = .ok (.aload_n 0, 1) := by decide +kernel
theorem dX12_minutes_1 : decode cX12_minutes 1 = .ok (.iload_n 1, 1) := by decide +kernel
theorem dX12_minutes_2 : decode cX12_minutes 2 = .ok (.iconst 1, 1) := by decide +kernel
theorem dX12_minutes_3 : decode cX12_minutes 3 = .ok (.bipush 60, 2) := by decide +kernel
theorem dX12_minutes_5 : decode cX12_minutes 5 = .ok (.invokestatic 60, 3) := by decide +kernel
theorem dX12_minutes_8 : decode cX12_minutes 8 = .ok (.ifCond .ne 7, 3) := by decide +kernel
theorem dX12_minutes_11 : decode cX12_minutes 11 = .ok (.iconst 1, 1) := by decide +kernel
theorem dX12_minutes_12 : decode cX12_minutes 12 = .ok (.goto 4, 3) := by decide +kernel
theorem dX12_minutes_15 : decode cX12_minutes 15 = .ok (.iconst 0, 1) := by decide +kernel
theorem dX12_minutes_16 : decode cX12_minutes 16 = .ok (.putfield 57, 3) := by decide +kernel
theorem dX12_minutes_19 : decode cX12_minutes 19 = .ok (.aload_n 0, 1) := by decide +kernel
theorem dX12_minutes_20 : decode cX12_minutes 20 = .ok (.getfield 57, 3) := by decide +kernel
theorem dX12_minutes_23 : decode cX12_minutes 23 = .ok (.ifCond .le 5, 3) := by decide +kernel
theorem dX12_minutes_26 : decode cX12_minutes 26 = .ok (.iconst 0, 1) := by decide +kernel
theorem dX12_minutes_27 : decode cX12_minutes 27 = .ok (.ireturn, 1) := by decide +kernel
theorem dX12_minutes_28 : decode cX12_minutes 28 = .ok (.aload_n 0, 1) := by decide +kernel
theorem dX12_minutes_29 : decode cX12_minutes 29 = .ok (.invokevirtual 356, 3) := by decide +kernel
theorem dX12_minutes_32 : decode cX12_minutes 32 = .ok (.aload_n 0, 1) := by decide +kernel
theorem dX12_minutes_33 : decode cX12_minutes 33 = .ok (.iload_n 1, 1) := by decide +kernel
theorem dX12_minutes_34 : decode cX12_minutes 34 = .ok (.iconst 1, 1) := by decide +kernel
theorem dX12_minutes_35 : decode cX12_minutes 35 = .ok (.invokevirtual 359, 3) := by decide +kernel
theorem dX12_minutes_38 : decode cX12_minutes 38 = .ok (.ireturn, 1) := by decide +kernel
theorem dX12_speak_0 : decode cX12_speak 0 = .ok (.aload_n 0, 1) := by decide +kernel
theorem dX12_speak_1 : decode cX12_speak 1 = .ok (.aload_n 0, 1) := by decide +kernel
theorem dX12_speak_2 : decode cX12_speak 2 = .ok (.iload_n 1, 1) := by decide +kernel
theorem dX12_speak_3 : decode cX12_speak 3 = .ok (.invokevirtual 316, 3) := by decide +kernel
theorem dX12_speak_6 : decode cX12_speak 6 = .ok (.ifCond .ne 7, 3) := by decide +kernel
theorem dX12_speak_9 : decode cX12_speak 9 = .ok (.iconst 1, 1) := by decide +kernel
theorem dX12_speak_10 : decode cX12_speak 10 = .ok (.goto 19, 3) := by decide +kernel
theorem dX12_speak_13 : decode cX12_speak 13 = .ok (.aload_n 0, 1) := by decide +kernel
theorem dX12_speak_14 : decode cX12_speak 14 = .ok (.getfield 7, 3) := by decide +kernel
theorem dX12_speak_17 : decode cX12_speak 17 = .ok (.iconst 5, 1) := by decide +kernel
theorem dX12_speak_18 : decode cX12_speak 18 = .ok (.iaload, 1) := by decide +kernel
theorem dX12_speak_19 : decode cX12_speak 19 = .ok (.bipush 20, 2) := by decide +kernel
theorem dX12_speak_21 : decode cX12_speak 21 = .ok (.if_icmp .ne 7, 3) := by decide +kernel
theorem dX12_speak_24 : decode cX12_speak 24 = .ok (.iconst 2, 1) := by decide +kernel
theorem dX12_speak_25 : decode cX12_speak 25 = .ok (.goto 4, 3) := by decide +kernel
theorem dX12_speak_28 : decode cX12_speak 28 = .ok (.iconst 0, 1) := by decide +kernel
theorem dX12_speak_29 : decode cX12_speak 29 = .ok (.putfield 57, 3) := by decide +kernel
theorem dX12_speak_32 : decode cX12_speak 32 = .ok (.aload_n 0, 1) := by decide +kernel
theorem dX12_speak_33 : decode cX12_speak 33 = .ok (.getfield 57, 3) := by decide +kernel
theorem dX12_speak_36 : decode cX12_speak 36 = .ok (.ifCond .le 5, 3) := by decide +kernel
theorem dX12_speak_39 : decode cX12_speak 39 = .ok (.iconst 0, 1) := by decide +kernel
theorem dX12_speak_40 : decode cX12_speak 40 = .ok (.ireturn, 1) := by decide +kernel
theorem dX12_speak_41 : decode cX12_speak 41 = .ok (.aload_n 0, 1) := by decide +kernel
theorem dX12_speak_42 : decode cX12_speak 42 = .ok (.bipush 76, 2) := by decide +kernel
theorem dX12_speak_44 : decode cX12_speak 44 = .ok (.aload_n 0, 1) := by decide +kernel
theorem dX12_speak_45 : decode cX12_speak 45 = .ok (.getfield 7, 3) := by decide +kernel
theorem dX12_speak_48 : decode cX12_speak 48 = .ok (.iconst 5, 1) := by decide +kernel
theorem dX12_speak_49 : decode cX12_speak 49 = .ok (.iaload, 1) := by decide +kernel
theorem dX12_speak_50 : decode cX12_speak 50 = .ok (.iadd, 1) := by decide +kernel
theorem dX12_speak_51 : decode cX12_speak 51 = .ok (.iload_n 1, 1) := by decide +kernel
theorem dX12_speak_52 : decode cX12_speak 52 = .ok (.invokevirtual 363, 3) := by decide +kernel
theorem dX12_speak_55 : decode cX12_speak 55 = .ok (.istore_n 2, 1) := by decide +kernel
theorem dX12_speak_56 : decode cX12_speak 56 = .ok (.aload_n 0, 1) := by decide +kernel
theorem dX12_speak_57 : decode cX12_speak 57 = .ok (.getfield 7, 3) := by decide +kernel
theorem dX12_speak_60 : decode cX12_speak 60 = .ok (.iconst 5, 1) := by decide +kernel
theorem dX12_speak_61 : decode cX12_speak 61 = .ok (.dup2, 1) := by decide +kernel
theorem dX12_speak_62 : decode cX12_speak 62 = .ok (.iaload, 1) := by decide +kernel
theorem dX12_speak_63 : decode cX12_speak 63 = .ok (.iconst 1, 1) := by decide +kernel
theorem dX12_speak_64 : decode cX12_speak 64 = .ok (.iadd, 1) := by decide +kernel
theorem dX12_speak_65 : decode cX12_speak 65 = .ok (.iastore, 1) := by decide +kernel
theorem dX12_speak_66 : decode cX12_speak 66 = .ok (.aload_n 0, 1) := by decide +kernel
theorem dX12_speak_67 : decode cX12_speak 67 = .ok (.getfield 7, 3) := by decide +kernel
theorem dX12_speak_70 : decode cX12_speak 70 = .ok (.iconst 5, 1) := by decide +kernel
theorem dX12_speak_71 : decode cX12_speak 71 = .ok (.iaload, 1) := by decide +kernel
theorem dX12_speak_72 : decode cX12_speak 72 = .ok (.ireturn, 1) := by decide +kernel
theorem dX12_leave_0 : decode cX12_leave 0 = .ok (.aload_n 0, 1) := by decide +kernel
theorem dX12_leave_1 : decode cX12_leave 1 = .ok (.aload_n 0, 1) := by decide +kernel
theorem dX12_leave_2 : decode cX12_leave 2 = .ok (.iload_n 1, 1) := by decide +kernel
theorem dX12_leave_3 : decode cX12_leave 3 = .ok (.invokevirtual 329, 3) := by decide +kernel
theorem dX12_leave_6 : decode cX12_leave 6 = .ok (.ifCond .eq 13, 3) := by decide +kernel
theorem dX12_leave_9 : decode cX12_leave 9 = .ok (.iload_n 2, 1) := by decide +kernel
theorem dX12_leave_10 : decode cX12_leave 10 = .ok (.iconst 0, 1) := by decide +kernel
theorem dX12_leave_11 : decode cX12_leave 11 = .ok (.bipush 7, 2) := by decide +kernel
theorem dX12_leave_13 : decode cX12_leave 13 = .ok (.invokestatic 60, 3) := by decide +kernel
theorem dX12_leave_16 : decode cX12_leave 16 = .ok (.ifCond .ne 7, 3) := by decide +kernel
theorem dX12_leave_19 : decode cX12_leave 19 = .ok (.iconst 1, 1) := by decide +kernel
theorem dX12_leave_20 : decode cX12_leave 20 = .ok (.goto 4, 3) := by decide +kernel
theorem dX12_leave_23 : decode cX12_leave 23 = .ok (.iconst 0, 1) := by decide +kernel
theorem dX12_leave_24 : decode cX12_leave 24 = .ok (.putfield 57, 3) := by decide +kernel
theorem dX12_leave_27 : decode cX12_leave 27 = .ok (.aload_n 0, 1) := by decide +kernel
theorem dX12_leave_28 : decode cX12_leave 28 = .ok (.getfield 57, 3) := by decide +kernel
theorem dX12_leave_31 : decode cX12_leave 31 = .ok (.ifCond .le 5, 3) := by decide +kernel
theorem dX12_leave_34 : decode cX12_leave 34 = .ok (.iconst 0, 1) := by decide +kernel
theorem dX12_leave_35 : decode cX12_leave 35 = .ok (.ireturn, 1) := by decide +kernel
theorem dX12_leave_36 : decode cX12_leave 36 = .ok (.aload_n 0, 1) := by decide +kernel
theorem dX12_leave_37 : decode cX12_leave 37 = .ok (.iload_n 1, 1) := by decide +kernel
theorem dX12_leave_38 : decode cX12_leave 38 = .ok (.iconst 0, 1) := by decide +kernel
theorem dX12_leave_39 : decode cX12_leave 39 = .ok (.invokevirtual 263, 3) := by decide +kernel
theorem dX12_leave_42 : decode cX12_leave 42 = .ok (.istore 4, 2) := by decide +kernel
theorem dX12_leave_44 : decode cX12_leave 44 = .ok (.aload_n 0, 1) := by decide +kernel
theorem dX12_leave_45 : decode cX12_leave 45 = .ok (.bipush 96, 2) := by decide +kernel
theorem dX12_leave_47 : decode cX12_leave 47 = .ok (.iconst 4, 1) := by decide +kernel
theorem dX12_leave_48 : decode cX12_leave 48 = .ok (.iload_n 1, 1) := by decide +kernel
theorem dX12_leave_49 : decode cX12_leave 49 = .ok (.imul, 1) := by decide +kernel
theorem dX12_leave_50 : decode cX12_leave 50 = .ok (.iadd, 1) := by decide +kernel
theorem dX12_leave_51 : decode cX12_leave 51 = .ok (.iconst 0, 1) := by decide +kernel
theorem dX12_leave_52 : decode cX12_leave 52 = .ok (.iadd, 1) := by decide +kernel
theorem dX12_leave_53 : decode cX12_leave 53 = .ok (.iload_n 3, 1) := by decide +kernel
theorem dX12_leave_54 : decode cX12_leave 54 = .ok (.ifCond .eq 12, 3) := by decide +kernel
theorem dX12_leave_57 : decode cX12_leave 57 = .ok (.iload 4, 2) := by decide +kernel
theorem dX12_leave_59 : decode cX12_leave 59 = .ok (.iconst 1, 1) := by decide +kernel
theorem dX12_leave_60 : decode cX12_leave 60 = .ok (.iload_n 2, 1) := by decide +kernel
theorem dX12_leave_61 : decode cX12_leave 61 = .ok (.ishl, 1) := by decide +kernel
theorem dX12_leave_62 : decode cX12_leave 62 = .ok (.ior, 1) := by decide +kernel
theorem dX12_leave_63 : decode cX12_leave 63 = .ok (.goto 11, 3) := by decide +kernel
theorem dX12_leave_66 : decode cX12_leave 66 = .ok (.iload 4, 2) := by decide +kernel
theorem dX12_leave_68 : decode cX12_leave 68 = .ok (.iconst 1, 1) := by decide +kernel
theorem dX12_leave_69 : decode cX12_leave 69 = .ok (.iload_n 2, 1) := by decide +kernel
theorem dX12_leave_70 : decode cX12_leave 70 = .ok (.ishl, 1) := by decide +kernel
theorem dX12_leave_71 : decode cX12_leave 71 = .ok (.iconst (-1), 1) := by decide +kernel
theorem dX12_leave_72 : decode cX12_leave 72 = .ok (.ixor, 1) := by decide +kernel
theorem dX12_leave_73 : decode cX12_leave 73 = .ok (.iand, 1) := by decide +kernel
theorem dX12_leave_74 : decode cX12_leave 74 = .ok (.invokevirtual 363, 3) := by decide +kernel
theorem dX12_leave_77 : decode cX12_leave 77 = .ok (.aload_n 0, 1) := by decide +kernel
theorem dX12_leave_78 : decode cX12_leave 78 = .ok (.iload_n 1, 1) := by decide +kernel
theorem dX12_leave_79 : decode cX12_leave 79 = .ok (.iconst 0, 1) := by decide +kernel
theorem dX12_leave_80 : decode cX12_leave 80 = .ok (.invokevirtual 263, 3) := by decide +kernel
theorem dX12_leave_83 : decode cX12_leave 83 = .ok (.if_icmp .eq 7, 3) := by decide +kernel
theorem dX12_leave_86 : decode cX12_leave 86 = .ok (.iconst 1, 1) := by decide +kernel
theorem dX12_leave_87 : decode cX12_leave 87 = .ok (.goto 4, 3) := by decide +kernel
theorem dX12_leave_90 : decode cX12_leave 90 = .ok (.iconst 0, 1) := by decide +kernel
theorem dX12_leave_91 : decode cX12_leave 91 = .ok (.ireturn, 1) := by decide +kernel
theorem dX12_learn_0 : decode cX12_learn 0 = .ok (.aload_n 0, 1) := by decide +kernel
theorem dX12_learn_1 : decode cX12_learn 1 = .ok (.aload_n 0, 1) := by decide +kernel
theorem dX12_learn_2 : decode cX12_learn 2 = .ok (.iload_n 1, 1) := by decide +kernel
theorem dX12_learn_3 : decode cX12_learn 3 = .ok (.invokevirtual 329, 3) := by decide +kernel
theorem dX12_learn_6 : decode cX12_learn 6 = .ok (.ifCond .ne 7, 3) := by decide +kernel
theorem dX12_learn_9 : decode cX12_learn 9 = .ok (.iconst 1, 1) := by decide +kernel
theorem dX12_learn_10 : decode cX12_learn 10 = .ok (.goto 4, 3) := by decide +kernel
theorem dX12_learn_13 : decode cX12_learn 13 = .ok (.iconst 0, 1) := by decide +kernel
theorem dX12_learn_14 : decode cX12_learn 14 = .ok (.putfield 57, 3) := by decide +kernel
theorem dX12_learn_17 : decode cX12_learn 17 = .ok (.aload_n 0, 1) := by decide +kernel
theorem dX12_learn_18 : decode cX12_learn 18 = .ok (.getfield 57, 3) := by decide +kernel
theorem dX12_learn_21 : decode cX12_learn 21 = .ok (.ifCond .le 5, 3) := by decide +kernel
theorem dX12_learn_24 : decode cX12_learn 24 = .ok (.iconst 0, 1) := by decide +kernel
theorem dX12_learn_25 : decode cX12_learn 25 = .ok (.ireturn, 1) := by decide +kernel
theorem dX12_learn_26 : decode cX12_learn 26 = .ok (.aload_n 0, 1) := by decide +kernel
theorem dX12_learn_27 : decode cX12_learn 27 = .ok (.bipush 96, 2) := by decide +kernel
theorem dX12_learn_29 : decode cX12_learn 29 = .ok (.iconst 4, 1) := by decide +kernel
theorem dX12_learn_30 : decode cX12_learn 30 = .ok (.iload_n 1, 1) := by decide +kernel
theorem dX12_learn_31 : decode cX12_learn 31 = .ok (.imul, 1) := by decide +kernel
theorem dX12_learn_32 : decode cX12_learn 32 = .ok (.iadd, 1) := by decide +kernel
theorem dX12_learn_33 : decode cX12_learn 33 = .ok (.iconst 2, 1) := by decide +kernel
theorem dX12_learn_34 : decode cX12_learn 34 = .ok (.iadd, 1) := by decide +kernel
theorem dX12_learn_35 : decode cX12_learn 35 = .ok (.bipush 9, 2) := by decide +kernel
theorem dX12_learn_37 : decode cX12_learn 37 = .ok (.aload_n 0, 1) := by decide +kernel
theorem dX12_learn_38 : decode cX12_learn 38 = .ok (.iload_n 1, 1) := by decide +kernel
theorem dX12_learn_39 : decode cX12_learn 39 = .ok (.iconst 2, 1) := by decide +kernel
theorem dX12_learn_40 : decode cX12_learn 40 = .ok (.invokevirtual 263, 3) := by decide +kernel
theorem dX12_learn_43 : decode cX12_learn 43 = .ok (.iconst 1, 1) := by decide +kernel
theorem dX12_learn_44 : decode cX12_learn 44 = .ok (.iadd, 1) := by decide +kernel
theorem dX12_learn_45 : decode cX12_learn 45 = .ok (.invokestatic 270, 3) := by decide +kernel
theorem dX12_learn_48 : decode cX12_learn 48 = .ok (.invokevirtual 363, 3) := by decide +kernel
theorem dX12_learn_51 : decode cX12_learn 51 = .ok (.istore_n 2, 1) := by decide +kernel
theorem dX12_learn_52 : decode cX12_learn 52 = .ok (.aload_n 0, 1) := by decide +kernel
theorem dX12_learn_53 : decode cX12_learn 53 = .ok (.iload_n 1, 1) := by decide +kernel
theorem dX12_learn_54 : decode cX12_learn 54 = .ok (.iconst 2, 1) := by decide +kernel
theorem dX12_learn_55 : decode cX12_learn 55 = .ok (.invokevirtual 263, 3) := by decide +kernel
theorem dX12_learn_58 : decode cX12_learn 58 = .ok (.ireturn, 1) := by decide +kernel
theorem dX12_rest_0 : decode cX12_rest 0 = .ok (.aload_n 0, 1) := by decide +kernel
theorem dX12_rest_1 : decode cX12_rest 1 = .ok (.aload_n 0, 1) := by decide +kernel
theorem dX12_rest_2 : decode cX12_rest 2 = .ok (.iload_n 1, 1) := by decide +kernel
theorem dX12_rest_3 : decode cX12_rest 3 = .ok (.invokevirtual 329, 3) := by decide +kernel
theorem dX12_rest_6 : decode cX12_rest 6 = .ok (.ifCond .ne 7, 3) := by decide +kernel
theorem dX12_rest_9 : decode cX12_rest 9 = .ok (.iconst 1, 1) := by decide +kernel
theorem dX12_rest_10 : decode cX12_rest 10 = .ok (.goto 4, 3) := by decide +kernel
theorem dX12_rest_13 : decode cX12_rest 13 = .ok (.iconst 0, 1) := by decide +kernel
theorem dX12_rest_14 : decode cX12_rest 14 = .ok (.putfield 57, 3) := by decide +kernel
theorem dX12_rest_17 : decode cX12_rest 17 = .ok (.aload_n 0, 1) := by decide +kernel
theorem dX12_rest_18 : decode cX12_rest 18 = .ok (.getfield 57, 3) := by decide +kernel
theorem dX12_rest_21 : decode cX12_rest 21 = .ok (.ifCond .le 7, 3) := by decide +kernel
theorem dX12_rest_24 : decode cX12_rest 24 = .ok (.iconst 0, 1) := by decide +kernel
theorem dX12_rest_25 : decode cX12_rest 25 = .ok (.goto 16, 3) := by decide +kernel
theorem dX12_rest_28 : decode cX12_rest 28 = .ok (.aload_n 0, 1) := by decide +kernel
theorem dX12_rest_29 : decode cX12_rest 29 = .ok (.bipush 96, 2) := by decide +kernel
theorem dX12_rest_31 : decode cX12_rest 31 = .ok (.iconst 4, 1) := by decide +kernel
theorem dX12_rest_32 : decode cX12_rest 32 = .ok (.iload_n 1, 1) := by decide +kernel
theorem dX12_rest_33 : decode cX12_rest 33 = .ok (.imul, 1) := by decide +kernel
theorem dX12_rest_34 : decode cX12_rest 34 = .ok (.iadd, 1) := by decide +kernel
theorem dX12_rest_35 : decode cX12_rest 35 = .ok (.iconst 3, 1) := by decide +kernel
theorem dX12_rest_36 : decode cX12_rest 36 = .ok (.iadd, 1) := by decide +kernel
theorem dX12_rest_37 : decode cX12_rest 37 = .ok (.iconst 0, 1) := by decide +kernel
theorem dX12_rest_38 : decode cX12_rest 38 = .ok (.invokevirtual 363, 3) := by decide +kernel
theorem dX12_rest_41 : decode cX12_rest 41 = .ok (.ireturn, 1) := by decide +kernel
theorem dX12_often_0 : decode cX12_often 0 = .ok (.aload_n 0, 1) := by decide +kernel
theorem dX12_often_1 : decode cX12_often 1 = .ok (.aload_n 0, 1) := by decide +kernel
theorem dX12_often_2 : decode cX12_often 2 = .ok (.iload_n 1, 1) := by decide +kernel
theorem dX12_often_3 : decode cX12_often 3 = .ok (.invokevirtual 316, 3) := by decide +kernel
theorem dX12_often_6 : decode cX12_often 6 = .ok (.ifCond .ne 7, 3) := by decide +kernel
theorem dX12_often_9 : decode cX12_often 9 = .ok (.iconst 1, 1) := by decide +kernel
theorem dX12_often_10 : decode cX12_often 10 = .ok (.goto 18, 3) := by decide +kernel
theorem dX12_often_13 : decode cX12_often 13 = .ok (.iload_n 2, 1) := by decide +kernel
theorem dX12_often_14 : decode cX12_often 14 = .ok (.iconst 1, 1) := by decide +kernel
theorem dX12_often_15 : decode cX12_often 15 = .ok (.bipush 99, 2) := by decide +kernel
theorem dX12_often_17 : decode cX12_often 17 = .ok (.invokestatic 60, 3) := by decide +kernel
theorem dX12_often_20 : decode cX12_often 20 = .ok (.ifCond .ne 7, 3) := by decide +kernel
theorem dX12_often_23 : decode cX12_often 23 = .ok (.iconst 2, 1) := by decide +kernel
theorem dX12_often_24 : decode cX12_often 24 = .ok (.goto 4, 3) := by decide +kernel
theorem dX12_often_27 : decode cX12_often 27 = .ok (.iconst 0, 1) := by decide +kernel
theorem dX12_often_28 : decode cX12_often 28 = .ok (.putfield 57, 3) := by decide +kernel
theorem dX12_often_31 : decode cX12_often 31 = .ok (.aload_n 0, 1) := by decide +kernel
theorem dX12_often_32 : decode cX12_often 32 = .ok (.getfield 57, 3) := by decide +kernel
theorem dX12_often_35 : decode cX12_often 35 = .ok (.ifCond .le 7, 3) := by decide +kernel
theorem dX12_often_38 : decode cX12_often 38 = .ok (.iconst 0, 1) := by decide +kernel
theorem dX12_often_39 : decode cX12_often 39 = .ok (.goto 18, 3) := by decide +kernel
theorem dX12_often_42 : decode cX12_often 42 = .ok (.aload_n 0, 1) := by decide +kernel
theorem dX12_often_43 : decode cX12_often 43 = .ok (.bipush 12, 2) := by decide +kernel
theorem dX12_often_45 : decode cX12_often 45 = .ok (.bipush 8, 2) := by decide +kernel
theorem dX12_often_47 : decode cX12_often 47 = .ok (.iload_n 1, 1) := by decide +kernel
theorem dX12_often_48 : decode cX12_often 48 = .ok (.imul, 1) := by decide +kernel
theorem dX12_often_49 : decode cX12_often 49 = .ok (.iadd, 1) := by decide +kernel
theorem dX12_often_50 : decode cX12_often 50 = .ok (.bipush 7, 2) := by decide +kernel
theorem dX12_often_52 : decode cX12_often 52 = .ok (.iadd, 1) := by decide +kernel
theorem dX12_often_53 : decode cX12_often 53 = .ok (.iload_n 2, 1) := by decide +kernel
theorem dX12_often_54 : decode cX12_often 54 = .ok (.invokevirtual 363, 3) := by decide +kernel
theorem dX12_often_57 : decode cX12_often 57 = .ok (.ireturn, 1) := by decide +kernel
theorem dX12_tempo_0 : decode cX12_tempo 0 = .ok (.aload_n 0, 1) := by decide +kernel
theorem dX12_tempo_1 : decode cX12_tempo 1 = .ok (.iload_n 1, 1) := by decide +kernel
theorem dX12_tempo_2 : decode cX12_tempo 2 = .ok (.iconst 1, 1) := by decide +kernel
theorem dX12_tempo_3 : decode cX12_tempo 3 = .ok (.bipush 9, 2) := by decide +kernel
theorem dX12_tempo_5 : decode cX12_tempo 5 = .ok (.invokestatic 60, 3) := by decide +kernel
theorem dX12_tempo_8 : decode cX12_tempo 8 = .ok (.ifCond .ne 7, 3) := by decide +kernel
theorem dX12_tempo_11 : decode cX12_tempo 11 = .ok (.iconst 1, 1) := by decide +kernel
theorem dX12_tempo_12 : decode cX12_tempo 12 = .ok (.goto 4, 3) := by decide +kernel
theorem dX12_tempo_15 : decode cX12_tempo 15 = .ok (.iconst 0, 1) := by decide +kernel
theorem dX12_tempo_16 : decode cX12_tempo 16 = .ok (.putfield 57, 3) := by decide +kernel
theorem dX12_tempo_19 : decode cX12_tempo 19 = .ok (.aload_n 0, 1) := by decide +kernel
theorem dX12_tempo_20 : decode cX12_tempo 20 = .ok (.getfield 57, 3) := by decide +kernel
theorem dX12_tempo_23 : decode cX12_tempo 23 = .ok (.ifCond .le 7, 3) := by decide +kernel
theorem dX12_tempo_26 : decode cX12_tempo 26 = .ok (.iconst 0, 1) := by decide +kernel
theorem dX12_tempo_27 : decode cX12_tempo 27 = .ok (.goto 10, 3) := by decide +kernel
theorem dX12_tempo_30 : decode cX12_tempo 30 = .ok (.aload_n 0, 1) := by decide +kernel
theorem dX12_tempo_31 : decode cX12_tempo 31 = .ok (.bipush 7, 2) := by decide +kernel
theorem dX12_tempo_33 : decode cX12_tempo 33 = .ok (.iload_n 1, 1) := by decide +kernel
theorem dX12_tempo_34 : decode cX12_tempo 34 = .ok (.invokevirtual 363, 3) := by decide +kernel
theorem dX12_tempo_37 : decode cX12_tempo 37 = .ok (.ireturn, 1) := by decide +kernel
theorem dX12_speed_0 : decode cX12_speed 0 = .ok (.aload_n 0, 1) := by decide +kernel
theorem dX12_speed_1 : decode cX12_speed 1 = .ok (.aload_n 0, 1) := by decide +kernel
theorem dX12_speed_2 : decode cX12_speed 2 = .ok (.iload_n 1, 1) := by decide +kernel
theorem dX12_speed_3 : decode cX12_speed 3 = .ok (.invokevirtual 329, 3) := by decide +kernel
theorem dX12_speed_6 : decode cX12_speed 6 = .ok (.ifCond .ne 7, 3) := by decide +kernel
theorem dX12_speed_9 : decode cX12_speed 9 = .ok (.iconst 1, 1) := by decide +kernel
theorem dX12_speed_10 : decode cX12_speed 10 = .ok (.goto 18, 3) := by decide +kernel
theorem dX12_speed_13 : decode cX12_speed 13 = .ok (.iload_n 2, 1) := by decide +kernel
theorem dX12_speed_14 : decode cX12_speed 14 = .ok (.iconst 1, 1) := by decide +kernel
theorem dX12_speed_15 : decode cX12_speed 15 = .ok (.bipush 9, 2) := by decide +kernel
theorem dX12_speed_17 : decode cX12_speed 17 = .ok (.invokestatic 60, 3) := by decide +kernel
theorem dX12_speed_20 : decode cX12_speed 20 = .ok (.ifCond .ne 7, 3) := by decide +kernel
theorem dX12_speed_23 : decode cX12_speed 23 = .ok (.iconst 2, 1) := by decide +kernel
theorem dX12_speed_24 : decode cX12_speed 24 = .ok (.goto 4, 3) := by decide +kernel
theorem dX12_speed_27 : decode cX12_speed 27 = .ok (.iconst 0, 1) := by decide +kernel
theorem dX12_speed_28 : decode cX12_speed 28 = .ok (.putfield 57, 3) := by decide +kernel
theorem dX12_speed_31 : decode cX12_speed 31 = .ok (.aload_n 0, 1) := by decide +kernel
theorem dX12_speed_32 : decode cX12_speed 32 = .ok (.getfield 57, 3) := by decide +kernel
theorem dX12_speed_35 : decode cX12_speed 35 = .ok (.ifCond .le 7, 3) := by decide +kernel
theorem dX12_speed_38 : decode cX12_speed 38 = .ok (.iconst 0, 1) := by decide +kernel
theorem dX12_speed_39 : decode cX12_speed 39 = .ok (.goto 16, 3) := by decide +kernel
theorem dX12_speed_42 : decode cX12_speed 42 = .ok (.aload_n 0, 1) := by decide +kernel
theorem dX12_speed_43 : decode cX12_speed 43 = .ok (.bipush 96, 2) := by decide +kernel
theorem dX12_speed_45 : decode cX12_speed 45 = .ok (.iconst 4, 1) := by decide +kernel
theorem dX12_speed_46 : decode cX12_speed 46 = .ok (.iload_n 1, 1) := by decide +kernel
theorem dX12_speed_47 : decode cX12_speed 47 = .ok (.imul, 1) := by decide +kernel
theorem dX12_speed_48 : decode cX12_speed 48 = .ok (.iadd, 1) := by decide +kernel
theorem dX12_speed_49 : decode cX12_speed 49 = .ok (.iconst 1, 1) := by decide +kernel
theorem dX12_speed_50 : decode cX12_speed 50 = .ok (.iadd, 1) := by decide +kernel
theorem dX12_speed_51 : decode cX12_speed 51 = .ok (.iload_n 2, 1) := by decide +kernel
theorem dX12_speed_52 : decode cX12_speed 52 = .ok (.invokevirtual 363, 3) := by decide +kernel
theorem dX12_speed_55 : decode cX12_speed 55 = .ok (.ireturn, 1) := by decide +kernel
theorem dX12_tellsApart_0 : decode cX12_tellsApart 0 = .ok (.iconst 1, 1) := by decide +kernel
theorem dX12_tellsApart_1 : decode cX12_tellsApart 1 = .ok (.istore_n 2, 1) := by decide +kernel
theorem dX12_tellsApart_2 : decode cX12_tellsApart 2 = .ok (.iconst 0, 1) := by decide +kernel
theorem dX12_tellsApart_3 : decode cX12_tellsApart 3 = .ok (.istore_n 3, 1) := by decide +kernel
theorem dX12_tellsApart_4 : decode cX12_tellsApart 4 = .ok (.iload_n 3, 1) := by decide +kernel
theorem dX12_tellsApart_5 : decode cX12_tellsApart 5 = .ok (.aload_n 0, 1) := by decide +kernel
theorem dX12_tellsApart_6 : decode cX12_tellsApart 6 = .ok (.getfield 7, 3) := by decide +kernel
theorem dX12_tellsApart_9 : decode cX12_tellsApart 9 = .ok (.iconst 3, 1) := by decide +kernel
theorem dX12_tellsApart_10 : decode cX12_tellsApart 10 = .ok (.iaload, 1) := by decide +kernel
theorem dX12_tellsApart_11 : decode cX12_tellsApart 11 = .ok (.if_icmp .ge 31, 3) := by decide +kernel
theorem dX12_tellsApart_14 : decode cX12_tellsApart 14 = .ok (.iload_n 2, 1) := by decide +kernel
theorem dX12_tellsApart_15 : decode cX12_tellsApart 15 = .ok (.ifCond .eq 27, 3) := by decide +kernel
theorem dX12_tellsApart_18 : decode cX12_tellsApart 18 = .ok (.aload_n 0, 1) := by decide +kernel
theorem dX12_tellsApart_19 : decode cX12_tellsApart 19 = .ok (.iload_n 3, 1) := by decide +kernel
theorem dX12_tellsApart_20 : decode cX12_tellsApart 20 = .ok (.iload_n 1, 1) := by decide +kernel
theorem dX12_tellsApart_21 : decode cX12_tellsApart 21 = .ok (.invokevirtual 254, 3) := by decide +kernel
theorem dX12_tellsApart_24 : decode cX12_tellsApart 24 = .ok (.iconst 1, 1) := by decide +kernel
theorem dX12_tellsApart_25 : decode cX12_tellsApart 25 = .ok (.iload_n 3, 1) := by decide +kernel
theorem dX12_tellsApart_26 : decode cX12_tellsApart 26 = .ok (.ishl, 1) := by decide +kernel
theorem dX12_tellsApart_27 : decode cX12_tellsApart 27 = .ok (.if_icmp .ne 7, 3) := by decide +kernel
theorem dX12_tellsApart_30 : decode cX12_tellsApart 30 = .ok (.iconst 1, 1) := by decide +kernel
theorem dX12_tellsApart_31 : decode cX12_tellsApart 31 = .ok (.goto 4, 3) := by decide +kernel
theorem dX12_tellsApart_34 : decode cX12_tellsApart 34 = .ok (.iconst 0, 1) := by decide +kernel
theorem dX12_tellsApart_35 : decode cX12_tellsApart 35 = .ok (.istore_n 2, 1) := by decide +kernel
theorem dX12_tellsApart_36 : decode cX12_tellsApart 36 = .ok (.iinc 3 1, 3) := by decide +kernel
theorem dX12_tellsApart_39 : decode cX12_tellsApart 39 = .ok (.goto (-35), 3) := by decide +kernel
theorem dX12_tellsApart_42 : decode cX12_tellsApart 42 = .ok (.iload_n 2, 1) := by decide +kernel
theorem dX12_tellsApart_43 : decode cX12_tellsApart 43 = .ok (.ireturn, 1) := by decide +kernel
theorem dX12_keep_0 : decode cX12_keep 0 = .ok (.aload_n 0, 1) := by decide +kernel
theorem dX12_keep_1 : decode cX12_keep 1 = .ok (.iconst 0, 1) := by decide +kernel
theorem dX12_keep_2 : decode cX12_keep 2 = .ok (.putfield 57, 3) := by decide +kernel
theorem dX12_keep_5 : decode cX12_keep 5 = .ok (.iconst (-1), 1) := by decide +kernel
theorem dX12_keep_6 : decode cX12_keep 6 = .ok (.istore_n 1, 1) := by decide +kernel
theorem dX12_keep_7 : decode cX12_keep 7 = .ok (.iconst 0, 1) := by decide +kernel
theorem dX12_keep_8 : decode cX12_keep 8 = .ok (.istore_n 2, 1) := by decide +kernel
theorem dX12_keep_9 : decode cX12_keep 9 = .ok (.iload_n 2, 1) := by decide +kernel
theorem dX12_keep_10 : decode cX12_keep 10 = .ok (.sipush 256, 3) := by decide +kernel
theorem dX12_keep_13 : decode cX12_keep 13 = .ok (.if_icmp .ge 41, 3) := by decide +kernel
theorem dX12_keep_16 : decode cX12_keep 16 = .ok (.iload_n 1, 1) := by decide +kernel
theorem dX12_keep_17 : decode cX12_keep 17 = .ok (.iconst (-1), 1) := by decide +kernel
theorem dX12_keep_18 : decode cX12_keep 18 = .ok (.if_icmp .eq 14, 3) := by decide +kernel
theorem dX12_keep_21 : decode cX12_keep 21 = .ok (.iload_n 2, 1) := by decide +kernel
theorem dX12_keep_22 : decode cX12_keep 22 = .ok (.invokestatic 366, 3) := by decide +kernel
theorem dX12_keep_25 : decode cX12_keep 25 = .ok (.iload_n 1, 1) := by decide +kernel
theorem dX12_keep_26 : decode cX12_keep 26 = .ok (.invokestatic 366, 3) := by decide +kernel
theorem dX12_keep_29 : decode cX12_keep 29 = .ok (.if_icmp .ge 19, 3) := by decide +kernel
theorem dX12_keep_32 : decode cX12_keep 32 = .ok (.aload_n 0, 1) := by decide +kernel
theorem dX12_keep_33 : decode cX12_keep 33 = .ok (.sipush 255, 3) := by decide +kernel
theorem dX12_keep_36 : decode cX12_keep 36 = .ok (.iload_n 2, 1) := by decide +kernel
theorem dX12_keep_37 : decode cX12_keep 37 = .ok (.iconst (-1), 1) := by decide +kernel
theorem dX12_keep_38 : decode cX12_keep 38 = .ok (.ixor, 1) := by decide +kernel
theorem dX12_keep_39 : decode cX12_keep 39 = .ok (.iand, 1) := by decide +kernel
theorem dX12_keep_40 : decode cX12_keep 40 = .ok (.invokevirtual 369, 3) := by decide +kernel
theorem dX12_keep_43 : decode cX12_keep 43 = .ok (.ifCond .eq 5, 3) := by decide +kernel
theorem dX12_keep_46 : decode cX12_keep 46 = .ok (.iload_n 2, 1) := by decide +kernel
theorem dX12_keep_47 : decode cX12_keep 47 = .ok (.istore_n 1, 1) := by decide +kernel
theorem dX12_keep_48 : decode cX12_keep 48 = .ok (.iinc 2 1, 3) := by decide +kernel
theorem dX12_keep_51 : decode cX12_keep 51 = .ok (.goto (-42), 3) := by decide +kernel
theorem dX12_keep_54 : decode cX12_keep 54 = .ok (.iload_n 1, 1) := by decide +kernel
theorem dX12_keep_55 : decode cX12_keep 55 = .ok (.ireturn, 1) := by decide +kernel
theorem dX12_leaves_0 : decode cX12_leaves 0 = .ok (.aload_n 0, 1) := by decide +kernel
theorem dX12_leaves_1 : decode cX12_leaves 1 = .ok (.iload_n 1, 1) := by decide +kernel
theorem dX12_leaves_2 : decode cX12_leaves 2 = .ok (.iconst 0, 1) := by decide +kernel
theorem dX12_leaves_3 : decode cX12_leaves 3 = .ok (.sipush 999, 3) := by decide +kernel
theorem dX12_leaves_6 : decode cX12_leaves 6 = .ok (.invokestatic 60, 3) := by decide +kernel
theorem dX12_leaves_9 : decode cX12_leaves 9 = .ok (.ifCond .ne 7, 3) := by decide +kernel
theorem dX12_leaves_12 : decode cX12_leaves 12 = .ok (.iconst 1, 1) := by decide +kernel
theorem dX12_leaves_13 : decode cX12_leaves 13 = .ok (.goto 4, 3) := by decide +kernel
theorem dX12_leaves_16 : decode cX12_leaves 16 = .ok (.iconst 0, 1) := by decide +kernel
theorem dX12_leaves_17 : decode cX12_leaves 17 = .ok (.putfield 57, 3) := by decide +kernel
theorem dX12_leaves_20 : decode cX12_leaves 20 = .ok (.aload_n 0, 1) := by decide +kernel
theorem dX12_leaves_21 : decode cX12_leaves 21 = .ok (.getfield 57, 3) := by decide +kernel
theorem dX12_leaves_24 : decode cX12_leaves 24 = .ok (.ifCond .le 5, 3) := by decide +kernel
theorem dX12_leaves_27 : decode cX12_leaves 27 = .ok (.iconst 0, 1) := by decide +kernel
theorem dX12_leaves_28 : decode cX12_leaves 28 = .ok (.ireturn, 1) := by decide +kernel
theorem dX12_leaves_29 : decode cX12_leaves 29 = .ok (.iconst (-1), 1) := by decide +kernel
theorem dX12_leaves_30 : decode cX12_leaves 30 = .ok (.istore_n 3, 1) := by decide +kernel
theorem dX12_leaves_31 : decode cX12_leaves 31 = .ok (.iconst (-1), 1) := by decide +kernel
theorem dX12_leaves_32 : decode cX12_leaves 32 = .ok (.istore 4, 2) := by decide +kernel
theorem dX12_leaves_34 : decode cX12_leaves 34 = .ok (.iconst 0, 1) := by decide +kernel
theorem dX12_leaves_35 : decode cX12_leaves 35 = .ok (.istore 5, 2) := by decide +kernel
theorem dX12_leaves_37 : decode cX12_leaves 37 = .ok (.iload 5, 2) := by decide +kernel
theorem dX12_leaves_39 : decode cX12_leaves 39 = .ok (.sipush 256, 3) := by decide +kernel
theorem dX12_leaves_42 : decode cX12_leaves 42 = .ok (.if_icmp .ge 44, 3) := by decide +kernel
theorem dX12_leaves_45 : decode cX12_leaves 45 = .ok (.aload_n 0, 1) := by decide +kernel
theorem dX12_leaves_46 : decode cX12_leaves 46 = .ok (.iload 5, 2) := by decide +kernel
theorem dX12_leaves_48 : decode cX12_leaves 48 = .ok (.invokevirtual 338, 3) := by decide +kernel
theorem dX12_leaves_51 : decode cX12_leaves 51 = .ok (.istore 6, 2) := by decide +kernel
theorem dX12_leaves_53 : decode cX12_leaves 53 = .ok (.iload 6, 2) := by decide +kernel
theorem dX12_leaves_55 : decode cX12_leaves 55 = .ok (.iload 4, 2) := by decide +kernel
theorem dX12_leaves_57 : decode cX12_leaves 57 = .ok (.if_icmp .le 23, 3) := by decide +kernel
theorem dX12_leaves_60 : decode cX12_leaves 60 = .ok (.aload_n 0, 1) := by decide +kernel
theorem dX12_leaves_61 : decode cX12_leaves 61 = .ok (.iload 5, 2) := by decide +kernel
theorem dX12_leaves_63 : decode cX12_leaves 63 = .ok (.invokevirtual 335, 3) := by decide +kernel
theorem dX12_leaves_66 : decode cX12_leaves 66 = .ok (.iload_n 1, 1) := by decide +kernel
theorem dX12_leaves_67 : decode cX12_leaves 67 = .ok (.if_icmp .le 6, 3) := by decide +kernel
theorem dX12_leaves_70 : decode cX12_leaves 70 = .ok (.goto 10, 3) := by decide +kernel
theorem dX12_leaves_73 : decode cX12_leaves 73 = .ok (.iload 6, 2) := by decide +kernel
theorem dX12_leaves_75 : decode cX12_leaves 75 = .ok (.istore 4, 2) := by decide +kernel
theorem dX12_leaves_77 : decode cX12_leaves 77 = .ok (.iload 5, 2) := by decide +kernel
theorem dX12_leaves_79 : decode cX12_leaves 79 = .ok (.istore_n 3, 1) := by decide +kernel
theorem dX12_leaves_80 : decode cX12_leaves 80 = .ok (.iinc 5 1, 3) := by decide +kernel
theorem dX12_leaves_83 : decode cX12_leaves 83 = .ok (.goto (-46), 3) := by decide +kernel
theorem dX12_leaves_86 : decode cX12_leaves 86 = .ok (.iload_n 2, 1) := by decide +kernel
theorem dX12_leaves_87 : decode cX12_leaves 87 = .ok (.ifCond .eq 8, 3) := by decide +kernel
theorem dX12_leaves_90 : decode cX12_leaves 90 = .ok (.iload 4, 2) := by decide +kernel
theorem dX12_leaves_92 : decode cX12_leaves 92 = .ok (.goto 4, 3) := by decide +kernel
theorem dX12_leaves_95 : decode cX12_leaves 95 = .ok (.iload_n 3, 1) := by decide +kernel
theorem dX12_leaves_96 : decode cX12_leaves 96 = .ok (.ireturn, 1) := by decide +kernel
theorem dX12_codes_0 : decode cX12_codes 0 = .ok (.aload_n 0, 1) := by decide +kernel
theorem dX12_codes_1 : decode cX12_codes 1 = .ok (.iconst 0, 1) := by decide +kernel
theorem dX12_codes_2 : decode cX12_codes 2 = .ok (.putfield 57, 3) := by decide +kernel
theorem dX12_codes_5 : decode cX12_codes 5 = .ok (.aload_n 0, 1) := by decide +kernel
theorem dX12_codes_6 : decode cX12_codes 6 = .ok (.getfield 7, 3) := by decide +kernel
theorem dX12_codes_9 : decode cX12_codes 9 = .ok (.iconst 3, 1) := by decide +kernel
theorem dX12_codes_10 : decode cX12_codes 10 = .ok (.iaload, 1) := by decide +kernel
theorem dX12_codes_11 : decode cX12_codes 11 = .ok (.iconst 2, 1) := by decide +kernel
theorem dX12_codes_12 : decode cX12_codes 12 = .ok (.if_icmp .ge 5, 3) := by decide +kernel
theorem dX12_codes_15 : decode cX12_codes 15 = .ok (.iconst 0, 1) := by decide +kernel
theorem dX12_codes_16 : decode cX12_codes 16 = .ok (.ireturn, 1) := by decide +kernel
theorem dX12_codes_17 : decode cX12_codes 17 = .ok (.aload_n 0, 1) := by decide +kernel
theorem dX12_codes_18 : decode cX12_codes 18 = .ok (.invokevirtual 313, 3) := by decide +kernel
theorem dX12_codes_21 : decode cX12_codes 21 = .ok (.aload_n 0, 1) := by decide +kernel
theorem dX12_codes_22 : decode cX12_codes 22 = .ok (.getfield 38, 3) := by decide +kernel
theorem dX12_codes_25 : decode cX12_codes 25 = .ok (.sipush 128, 3) := by decide +kernel
theorem dX12_codes_28 : decode cX12_codes 28 = .ok (.iaload, 1) := by decide +kernel
theorem dX12_codes_29 : decode cX12_codes 29 = .ok (.ireturn, 1) := by decide +kernel
theorem dX12_hears_0 : decode cX12_hears 0 = .ok (.aload_n 0, 1) := by decide +kernel
theorem dX12_hears_1 : decode cX12_hears 1 = .ok (.getfield 64, 3) := by decide +kernel
theorem dX12_hears_4 : decode cX12_hears 4 = .ok (.istore_n 1, 1) := by decide +kernel
theorem dX12_hears_5 : decode cX12_hears 5 = .ok (.aload_n 0, 1) := by decide +kernel
theorem dX12_hears_6 : decode cX12_hears 6 = .ok (.iconst 0, 1) := by decide +kernel
theorem dX12_hears_7 : decode cX12_hears 7 = .ok (.putfield 64, 3) := by decide +kernel
theorem dX12_hears_10 : decode cX12_hears 10 = .ok (.iload_n 1, 1) := by decide +kernel
theorem dX12_hears_11 : decode cX12_hears 11 = .ok (.iconst 2, 1) := by decide +kernel
theorem dX12_hears_12 : decode cX12_hears 12 = .ok (.irem, 1) := by decide +kernel
theorem dX12_hears_13 : decode cX12_hears 13 = .ok (.ifCond .ne 13, 3) := by decide +kernel
theorem dX12_hears_16 : decode cX12_hears 16 = .ok (.iload_n 1, 1) := by decide +kernel
theorem dX12_hears_17 : decode cX12_hears 17 = .ok (.bipush 40, 2) := by decide +kernel
theorem dX12_hears_19 : decode cX12_hears 19 = .ok (.if_icmp .gt 7, 3) := by decide +kernel
theorem dX12_hears_22 : decode cX12_hears 22 = .ok (.iconst 1, 1) := by decide +kernel
theorem dX12_hears_23 : decode cX12_hears 23 = .ok (.goto 4, 3) := by decide +kernel
theorem dX12_hears_26 : decode cX12_hears 26 = .ok (.iconst 0, 1) := by decide +kernel
theorem dX12_hears_27 : decode cX12_hears 27 = .ok (.istore_n 2, 1) := by decide +kernel
theorem dX12_hears_28 : decode cX12_hears 28 = .ok (.iconst 0, 1) := by decide +kernel
theorem dX12_hears_29 : decode cX12_hears 29 = .ok (.istore_n 3, 1) := by decide +kernel
theorem dX12_hears_30 : decode cX12_hears 30 = .ok (.iload_n 3, 1) := by decide +kernel
theorem dX12_hears_31 : decode cX12_hears 31 = .ok (.iload_n 1, 1) := by decide +kernel
theorem dX12_hears_32 : decode cX12_hears 32 = .ok (.if_icmp .ge 43, 3) := by decide +kernel
theorem dX12_hears_35 : decode cX12_hears 35 = .ok (.iload_n 2, 1) := by decide +kernel
theorem dX12_hears_36 : decode cX12_hears 36 = .ok (.ifCond .eq 39, 3) := by decide +kernel
theorem dX12_hears_39 : decode cX12_hears 39 = .ok (.aload_n 0, 1) := by decide +kernel
theorem dX12_hears_40 : decode cX12_hears 40 = .ok (.getfield 22, 3) := by decide +kernel
theorem dX12_hears_43 : decode cX12_hears 43 = .ok (.iload_n 3, 1) := by decide +kernel
theorem dX12_hears_44 : decode cX12_hears 44 = .ok (.iaload, 1) := by decide +kernel
theorem dX12_hears_45 : decode cX12_hears 45 = .ok (.bipush 6, 2) := by decide +kernel
theorem dX12_hears_47 : decode cX12_hears 47 = .ok (.if_icmp .ge 20, 3) := by decide +kernel
theorem dX12_hears_50 : decode cX12_hears 50 = .ok (.aload_n 0, 1) := by decide +kernel
theorem dX12_hears_51 : decode cX12_hears 51 = .ok (.getfield 22, 3) := by decide +kernel
theorem dX12_hears_54 : decode cX12_hears 54 = .ok (.iload_n 3, 1) := by decide +kernel
theorem dX12_hears_55 : decode cX12_hears 55 = .ok (.iconst 1, 1) := by decide +kernel
theorem dX12_hears_56 : decode cX12_hears 56 = .ok (.iadd, 1) := by decide +kernel
theorem dX12_hears_57 : decode cX12_hears 57 = .ok (.iaload, 1) := by decide +kernel
theorem dX12_hears_58 : decode cX12_hears 58 = .ok (.bipush 8, 2) := by decide +kernel
theorem dX12_hears_60 : decode cX12_hears 60 = .ok (.if_icmp .ge 7, 3) := by decide +kernel
theorem dX12_hears_63 : decode cX12_hears 63 = .ok (.iconst 1, 1) := by decide +kernel
theorem dX12_hears_64 : decode cX12_hears 64 = .ok (.goto 4, 3) := by decide +kernel
theorem dX12_hears_67 : decode cX12_hears 67 = .ok (.iconst 0, 1) := by decide +kernel
theorem dX12_hears_68 : decode cX12_hears 68 = .ok (.istore_n 2, 1) := by decide +kernel
theorem dX12_hears_69 : decode cX12_hears 69 = .ok (.iinc 3 2, 3) := by decide +kernel
theorem dX12_hears_72 : decode cX12_hears 72 = .ok (.goto (-42), 3) := by decide +kernel
theorem dX12_hears_75 : decode cX12_hears 75 = .ok (.aload_n 0, 1) := by decide +kernel
theorem dX12_hears_76 : decode cX12_hears 76 = .ok (.iload_n 2, 1) := by decide +kernel
theorem dX12_hears_77 : decode cX12_hears 77 = .ok (.ifCond .eq 7, 3) := by decide +kernel
theorem dX12_hears_80 : decode cX12_hears 80 = .ok (.iconst 0, 1) := by decide +kernel
theorem dX12_hears_81 : decode cX12_hears 81 = .ok (.goto 4, 3) := by decide +kernel
theorem dX12_hears_84 : decode cX12_hears 84 = .ok (.iconst 1, 1) := by decide +kernel
theorem dX12_hears_85 : decode cX12_hears 85 = .ok (.putfield 57, 3) := by decide +kernel
theorem dX12_hears_88 : decode cX12_hears 88 = .ok (.iconst 0, 1) := by decide +kernel
theorem dX12_hears_89 : decode cX12_hears 89 = .ok (.istore_n 3, 1) := by decide +kernel
theorem dX12_hears_90 : decode cX12_hears 90 = .ok (.iconst 0, 1) := by decide +kernel
theorem dX12_hears_91 : decode cX12_hears 91 = .ok (.istore 4, 2) := by decide +kernel
theorem dX12_hears_93 : decode cX12_hears 93 = .ok (.iload 4, 2) := by decide +kernel
theorem dX12_hears_95 : decode cX12_hears 95 = .ok (.aload_n 0, 1) := by decide +kernel
theorem dX12_hears_96 : decode cX12_hears 96 = .ok (.getfield 7, 3) := by decide +kernel
theorem dX12_hears_99 : decode cX12_hears 99 = .ok (.iconst 3, 1) := by decide +kernel
theorem dX12_hears_100 : decode cX12_hears 100 = .ok (.iaload, 1) := by decide +kernel
theorem dX12_hears_101 : decode cX12_hears 101 = .ok (.if_icmp .ge 98, 3) := by decide +kernel
theorem dX12_hears_104 : decode cX12_hears 104 = .ok (.iload_n 2, 1) := by decide +kernel
theorem dX12_hears_105 : decode cX12_hears 105 = .ok (.ifCond .eq 94, 3) := by decide +kernel
theorem dX12_hears_108 : decode cX12_hears 108 = .ok (.aload_n 0, 1) := by decide +kernel
theorem dX12_hears_109 : decode cX12_hears 109 = .ok (.getfield 47, 3) := by decide +kernel
theorem dX12_hears_112 : decode cX12_hears 112 = .ok (.iload 4, 2) := by decide +kernel
theorem dX12_hears_114 : decode cX12_hears 114 = .ok (.iconst 0, 1) := by decide +kernel
theorem dX12_hears_115 : decode cX12_hears 115 = .ok (.iastore, 1) := by decide +kernel
theorem dX12_hears_116 : decode cX12_hears 116 = .ok (.iconst 0, 1) := by decide +kernel
theorem dX12_hears_117 : decode cX12_hears 117 = .ok (.istore 5, 2) := by decide +kernel
theorem dX12_hears_119 : decode cX12_hears 119 = .ok (.iload 5, 2) := by decide +kernel
theorem dX12_hears_121 : decode cX12_hears 121 = .ok (.iload_n 1, 1) := by decide +kernel
theorem dX12_hears_122 : decode cX12_hears 122 = .ok (.if_icmp .ge 49, 3) := by decide +kernel
theorem dX12_hears_125 : decode cX12_hears 125 = .ok (.aload_n 0, 1) := by decide +kernel
theorem dX12_hears_126 : decode cX12_hears 126 = .ok (.getfield 47, 3) := by decide +kernel
theorem dX12_hears_129 : decode cX12_hears 129 = .ok (.iload 4, 2) := by decide +kernel
theorem dX12_hears_131 : decode cX12_hears 131 = .ok (.dup2, 1) := by decide +kernel
theorem dX12_hears_132 : decode cX12_hears 132 = .ok (.iaload, 1) := by decide +kernel
theorem dX12_hears_133 : decode cX12_hears 133 = .ok (.aload_n 0, 1) := by decide +kernel
theorem dX12_hears_134 : decode cX12_hears 134 = .ok (.iload 4, 2) := by decide +kernel
theorem dX12_hears_136 : decode cX12_hears 136 = .ok (.aload_n 0, 1) := by decide +kernel
theorem dX12_hears_137 : decode cX12_hears 137 = .ok (.getfield 22, 3) := by decide +kernel
theorem dX12_hears_140 : decode cX12_hears 140 = .ok (.iload 5, 2) := by decide +kernel
theorem dX12_hears_142 : decode cX12_hears 142 = .ok (.iaload, 1) := by decide +kernel
theorem dX12_hears_143 : decode cX12_hears 143 = .ok (.invokevirtual 245, 3) := by decide +kernel
theorem dX12_hears_146 : decode cX12_hears 146 = .ok (.aload_n 0, 1) := by decide +kernel
theorem dX12_hears_147 : decode cX12_hears 147 = .ok (.getfield 22, 3) := by decide +kernel
theorem dX12_hears_150 : decode cX12_hears 150 = .ok (.iload 5, 2) := by decide +kernel
theorem dX12_hears_152 : decode cX12_hears 152 = .ok (.iconst 1, 1) := by decide +kernel
theorem dX12_hears_153 : decode cX12_hears 153 = .ok (.iadd, 1) := by decide +kernel
theorem dX12_hears_154 : decode cX12_hears 154 = .ok (.iaload, 1) := by decide +kernel
theorem dX12_hears_155 : decode cX12_hears 155 = .ok (.if_icmp .ne 7, 3) := by decide +kernel
theorem dX12_hears_158 : decode cX12_hears 158 = .ok (.iconst 0, 1) := by decide +kernel
theorem dX12_hears_159 : decode cX12_hears 159 = .ok (.goto 4, 3) := by decide +kernel
theorem dX12_hears_162 : decode cX12_hears 162 = .ok (.iconst 1, 1) := by decide +kernel
theorem dX12_hears_163 : decode cX12_hears 163 = .ok (.iadd, 1) := by decide +kernel
theorem dX12_hears_164 : decode cX12_hears 164 = .ok (.iastore, 1) := by decide +kernel
theorem dX12_hears_165 : decode cX12_hears 165 = .ok (.iinc 5 2, 3) := by decide +kernel
theorem dX12_hears_168 : decode cX12_hears 168 = .ok (.goto (-49), 3) := by decide +kernel
theorem dX12_hears_171 : decode cX12_hears 171 = .ok (.iload_n 3, 1) := by decide +kernel
theorem dX12_hears_172 : decode cX12_hears 172 = .ok (.aload_n 0, 1) := by decide +kernel
theorem dX12_hears_173 : decode cX12_hears 173 = .ok (.getfield 47, 3) := by decide +kernel
theorem dX12_hears_176 : decode cX12_hears 176 = .ok (.iload 4, 2) := by decide +kernel
theorem dX12_hears_178 : decode cX12_hears 178 = .ok (.iaload, 1) := by decide +kernel
theorem dX12_hears_179 : decode cX12_hears 179 = .ok (.iconst 1, 1) := by decide +kernel
theorem dX12_hears_180 : decode cX12_hears 180 = .ok (.if_icmp .gt 10, 3) := by decide +kernel
theorem dX12_hears_183 : decode cX12_hears 183 = .ok (.iconst 1, 1) := by decide +kernel
theorem dX12_hears_184 : decode cX12_hears 184 = .ok (.iload 4, 2) := by decide +kernel
theorem dX12_hears_186 : decode cX12_hears 186 = .ok (.ishl, 1) := by decide +kernel
theorem dX12_hears_187 : decode cX12_hears 187 = .ok (.goto 4, 3) := by decide +kernel
theorem dX12_hears_190 : decode cX12_hears 190 = .ok (.iconst 0, 1) := by decide +kernel
theorem dX12_hears_191 : decode cX12_hears 191 = .ok (.ior, 1) := by decide +kernel
theorem dX12_hears_192 : decode cX12_hears 192 = .ok (.istore_n 3, 1) := by decide +kernel
theorem dX12_hears_193 : decode cX12_hears 193 = .ok (.iinc 4 1, 3) := by decide +kernel
theorem dX12_hears_196 : decode cX12_hears 196 = .ok (.goto (-103), 3) := by decide +kernel
theorem dX12_hears_199 : decode cX12_hears 199 = .ok (.iload_n 3, 1) := by decide +kernel
theorem dX12_hears_200 : decode cX12_hears 200 = .ok (.ireturn, 1) := by decide +kernel
theorem dX12_heard_0 : decode cX12_heard 0 = .ok (.aload_n 0, 1) := by decide +kernel
theorem dX12_heard_1 : decode cX12_heard 1 = .ok (.invokevirtual 372, 3) := by decide +kernel
theorem dX12_heard_4 : decode cX12_heard 4 = .ok (.istore_n 1, 1) := by decide +kernel
theorem dX12_heard_5 : decode cX12_heard 5 = .ok (.aload_n 0, 1) := by decide +kernel
theorem dX12_heard_6 : decode cX12_heard 6 = .ok (.getfield 57, 3) := by decide +kernel
theorem dX12_heard_9 : decode cX12_heard 9 = .ok (.ifCond .le 7, 3) := by decide +kernel
theorem dX12_heard_12 : decode cX12_heard 12 = .ok (.iconst 0, 1) := by decide +kernel
theorem dX12_heard_13 : decode cX12_heard 13 = .ok (.goto 4, 3) := by decide +kernel
theorem dX12_heard_16 : decode cX12_heard 16 = .ok (.iload_n 1, 1) := by decide +kernel
theorem dX12_heard_17 : decode cX12_heard 17 = .ok (.ireturn, 1) := by decide +kernel
theorem dX12_likely_0 : decode cX12_likely 0 = .ok (.aload_n 0, 1) := by decide +kernel
theorem dX12_likely_1 : decode cX12_likely 1 = .ok (.invokevirtual 372, 3) := by decide +kernel
theorem dX12_likely_4 : decode cX12_likely 4 = .ok (.istore_n 1, 1) := by decide +kernel
theorem dX12_likely_5 : decode cX12_likely 5 = .ok (.aload_n 0, 1) := by decide +kernel
theorem dX12_likely_6 : decode cX12_likely 6 = .ok (.getfield 57, 3) := by decide +kernel
theorem dX12_likely_9 : decode cX12_likely 9 = .ok (.ifCond .le 5, 3) := by decide +kernel
theorem dX12_likely_12 : decode cX12_likely 12 = .ok (.iconst 0, 1) := by decide +kernel
theorem dX12_likely_13 : decode cX12_likely 13 = .ok (.ireturn, 1) := by decide +kernel
theorem dX12_likely_14 : decode cX12_likely 14 = .ok (.iconst (-1), 1) := by decide +kernel
theorem dX12_likely_15 : decode cX12_likely 15 = .ok (.istore_n 2, 1) := by decide +kernel
theorem dX12_likely_16 : decode cX12_likely 16 = .ok (.iconst 0, 1) := by decide +kernel
theorem dX12_likely_17 : decode cX12_likely 17 = .ok (.istore_n 3, 1) := by decide +kernel
theorem dX12_likely_18 : decode cX12_likely 18 = .ok (.iload_n 3, 1) := by decide +kernel
theorem dX12_likely_19 : decode cX12_likely 19 = .ok (.aload_n 0, 1) := by decide +kernel
theorem dX12_likely_20 : decode cX12_likely 20 = .ok (.getfield 7, 3) := by decide +kernel
theorem dX12_likely_23 : decode cX12_likely 23 = .ok (.iconst 3, 1) := by decide +kernel
theorem dX12_likely_24 : decode cX12_likely 24 = .ok (.iaload, 1) := by decide +kernel
theorem dX12_likely_25 : decode cX12_likely 25 = .ok (.if_icmp .ge 90, 3) := by decide +kernel
theorem dX12_likely_28 : decode cX12_likely 28 = .ok (.iload_n 1, 1) := by decide +kernel
theorem dX12_likely_29 : decode cX12_likely 29 = .ok (.iload_n 3, 1) := by decide +kernel
theorem dX12_likely_30 : decode cX12_likely 30 = .ok (.invokestatic 248, 3) := by decide +kernel
theorem dX12_likely_33 : decode cX12_likely 33 = .ok (.ifCond .ne 6, 3) := by decide +kernel
theorem dX12_likely_36 : decode cX12_likely 36 = .ok (.goto 73, 3) := by decide +kernel
theorem dX12_likely_39 : decode cX12_likely 39 = .ok (.iload_n 2, 1) := by decide +kernel
theorem dX12_likely_40 : decode cX12_likely 40 = .ok (.iconst (-1), 1) := by decide +kernel
theorem dX12_likely_41 : decode cX12_likely 41 = .ok (.if_icmp .eq 50, 3) := by decide +kernel
theorem dX12_likely_44 : decode cX12_likely 44 = .ok (.aload_n 0, 1) := by decide +kernel
theorem dX12_likely_45 : decode cX12_likely 45 = .ok (.getfield 47, 3) := by decide +kernel
theorem dX12_likely_48 : decode cX12_likely 48 = .ok (.iload_n 3, 1) := by decide +kernel
theorem dX12_likely_49 : decode cX12_likely 49 = .ok (.iaload, 1) := by decide +kernel
theorem dX12_likely_50 : decode cX12_likely 50 = .ok (.aload_n 0, 1) := by decide +kernel
theorem dX12_likely_51 : decode cX12_likely 51 = .ok (.getfield 47, 3) := by decide +kernel
theorem dX12_likely_54 : decode cX12_likely 54 = .ok (.iload_n 2, 1) := by decide +kernel
theorem dX12_likely_55 : decode cX12_likely 55 = .ok (.iaload, 1) := by decide +kernel
theorem dX12_likely_56 : decode cX12_likely 56 = .ok (.if_icmp .lt 35, 3) := by decide +kernel
theorem dX12_likely_59 : decode cX12_likely 59 = .ok (.aload_n 0, 1) := by decide +kernel
theorem dX12_likely_60 : decode cX12_likely 60 = .ok (.getfield 47, 3) := by decide +kernel
theorem dX12_likely_63 : decode cX12_likely 63 = .ok (.iload_n 3, 1) := by decide +kernel
theorem dX12_likely_64 : decode cX12_likely 64 = .ok (.iaload, 1) := by decide +kernel
theorem dX12_likely_65 : decode cX12_likely 65 = .ok (.aload_n 0, 1) := by decide +kernel
theorem dX12_likely_66 : decode cX12_likely 66 = .ok (.getfield 47, 3) := by decide +kernel
theorem dX12_likely_69 : decode cX12_likely 69 = .ok (.iload_n 2, 1) := by decide +kernel
theorem dX12_likely_70 : decode cX12_likely 70 = .ok (.iaload, 1) := by decide +kernel
theorem dX12_likely_71 : decode cX12_likely 71 = .ok (.if_icmp .ne 24, 3) := by decide +kernel
theorem dX12_likely_74 : decode cX12_likely 74 = .ok (.aload_n 0, 1) := by decide +kernel
theorem dX12_likely_75 : decode cX12_likely 75 = .ok (.iload_n 3, 1) := by decide +kernel
theorem dX12_likely_76 : decode cX12_likely 76 = .ok (.bipush 7, 2) := by decide +kernel
theorem dX12_likely_78 : decode cX12_likely 78 = .ok (.invokevirtual 245, 3) := by decide +kernel
theorem dX12_likely_81 : decode cX12_likely 81 = .ok (.aload_n 0, 1) := by decide +kernel
theorem dX12_likely_82 : decode cX12_likely 82 = .ok (.iload_n 2, 1) := by decide +kernel
theorem dX12_likely_83 : decode cX12_likely 83 = .ok (.bipush 7, 2) := by decide +kernel
theorem dX12_likely_85 : decode cX12_likely 85 = .ok (.invokevirtual 245, 3) := by decide +kernel
theorem dX12_likely_88 : decode cX12_likely 88 = .ok (.if_icmp .le 7, 3) := by decide +kernel
theorem dX12_likely_91 : decode cX12_likely 91 = .ok (.iconst 1, 1) := by decide +kernel
theorem dX12_likely_92 : decode cX12_likely 92 = .ok (.goto 4, 3) := by decide +kernel
theorem dX12_likely_95 : decode cX12_likely 95 = .ok (.iconst 0, 1) := by decide +kernel
theorem dX12_likely_96 : decode cX12_likely 96 = .ok (.istore 4, 2) := by decide +kernel
theorem dX12_likely_98 : decode cX12_likely 98 = .ok (.iload 4, 2) := by decide +kernel
theorem dX12_likely_100 : decode cX12_likely 100 = .ok (.ifCond .eq 7, 3) := by decide +kernel
theorem dX12_likely_103 : decode cX12_likely 103 = .ok (.iload_n 3, 1) := by decide +kernel
theorem dX12_likely_104 : decode cX12_likely 104 = .ok (.goto 4, 3) := by decide +kernel
theorem dX12_likely_107 : decode cX12_likely 107 = .ok (.iload_n 2, 1) := by decide +kernel
theorem dX12_likely_108 : decode cX12_likely 108 = .ok (.istore_n 2, 1) := by decide +kernel
theorem dX12_likely_109 : decode cX12_likely 109 = .ok (.iinc 3 1, 3) := by decide +kernel
theorem dX12_likely_112 : decode cX12_likely 112 = .ok (.goto (-94), 3) := by decide +kernel
theorem dX12_likely_115 : decode cX12_likely 115 = .ok (.iload_n 2, 1) := by decide +kernel
theorem dX12_likely_116 : decode cX12_likely 116 = .ok (.ireturn, 1) := by decide +kernel
theorem dX12_look_0 : decode cX12_look 0 = .ok (.aload_n 0, 1) := by decide +kernel
theorem dX12_look_1 : decode cX12_look 1 = .ok (.invokevirtual 372, 3) := by decide +kernel
theorem dX12_look_4 : decode cX12_look 4 = .ok (.istore_n 1, 1) := by decide +kernel
theorem dX12_look_5 : decode cX12_look 5 = .ok (.aload_n 0, 1) := by decide +kernel
theorem dX12_look_6 : decode cX12_look 6 = .ok (.getfield 57, 3) := by decide +kernel
theorem dX12_look_9 : decode cX12_look 9 = .ok (.ifCond .le 5, 3) := by decide +kernel
theorem dX12_look_12 : decode cX12_look 12 = .ok (.iconst 0, 1) := by decide +kernel
theorem dX12_look_13 : decode cX12_look 13 = .ok (.ireturn, 1) := by decide +kernel
theorem dX12_look_14 : decode cX12_look 14 = .ok (.iconst (-1), 1) := by decide +kernel
theorem dX12_look_15 : decode cX12_look 15 = .ok (.istore_n 2, 1) := by decide +kernel
theorem dX12_look_16 : decode cX12_look 16 = .ok (.ldc_w 305, 3) := by decide +kernel
theorem dX12_look_19 : decode cX12_look 19 = .ok (.istore_n 3, 1) := by decide +kernel
theorem dX12_look_20 : decode cX12_look 20 = .ok (.iconst 0, 1) := by decide +kernel
theorem dX12_look_21 : decode cX12_look 21 = .ok (.istore 4, 2) := by decide +kernel
theorem dX12_look_23 : decode cX12_look 23 = .ok (.iload 4, 2) := by decide +kernel
theorem dX12_look_25 : decode cX12_look 25 = .ok (.bipush 6, 2) := by decide +kernel
theorem dX12_look_27 : decode cX12_look 27 = .ok (.if_icmp .ge 128, 3) := by decide +kernel
theorem dX12_look_30 : decode cX12_look 30 = .ok (.iload_n 1, 1) := by decide +kernel
theorem dX12_look_31 : decode cX12_look 31 = .ok (.invokestatic 366, 3) := by decide +kernel
theorem dX12_look_34 : decode cX12_look 34 = .ok (.iconst 1, 1) := by decide +kernel
theorem dX12_look_35 : decode cX12_look 35 = .ok (.if_icmp .le 120, 3) := by decide +kernel
theorem dX12_look_38 : decode cX12_look 38 = .ok (.iconst 0, 1) := by decide +kernel
theorem dX12_look_39 : decode cX12_look 39 = .ok (.istore 5, 2) := by decide +kernel
theorem dX12_look_41 : decode cX12_look 41 = .ok (.iload 5, 2) := by decide +kernel
theorem dX12_look_43 : decode cX12_look 43 = .ok (.bipush 9, 2) := by decide +kernel
theorem dX12_look_45 : decode cX12_look 45 = .ok (.if_icmp .ge 17, 3) := by decide +kernel
theorem dX12_look_48 : decode cX12_look 48 = .ok (.aload_n 0, 1) := by decide +kernel
theorem dX12_look_49 : decode cX12_look 49 = .ok (.getfield 50, 3) := by decide +kernel
theorem dX12_look_52 : decode cX12_look 52 = .ok (.iload 5, 2) := by decide +kernel
theorem dX12_look_54 : decode cX12_look 54 = .ok (.iconst 0, 1) := by decide +kernel
theorem dX12_look_55 : decode cX12_look 55 = .ok (.iastore, 1) := by decide +kernel
theorem dX12_look_56 : decode cX12_look 56 = .ok (.iinc 5 1, 3) := by decide +kernel
theorem dX12_look_59 : decode cX12_look 59 = .ok (.goto (-18), 3) := by decide +kernel
theorem dX12_look_62 : decode cX12_look 62 = .ok (.iconst 0, 1) := by decide +kernel
theorem dX12_look_63 : decode cX12_look 63 = .ok (.istore 5, 2) := by decide +kernel
theorem dX12_look_65 : decode cX12_look 65 = .ok (.iconst 0, 1) := by decide +kernel
theorem dX12_look_66 : decode cX12_look 66 = .ok (.istore 6, 2) := by decide +kernel
theorem dX12_look_68 : decode cX12_look 68 = .ok (.iload 6, 2) := by decide +kernel
theorem dX12_look_70 : decode cX12_look 70 = .ok (.aload_n 0, 1) := by decide +kernel
theorem dX12_look_71 : decode cX12_look 71 = .ok (.getfield 7, 3) := by decide +kernel
theorem dX12_look_74 : decode cX12_look 74 = .ok (.iconst 3, 1) := by decide +kernel
theorem dX12_look_75 : decode cX12_look 75 = .ok (.iaload, 1) := by decide +kernel
theorem dX12_look_76 : decode cX12_look 76 = .ok (.if_icmp .ge 58, 3) := by decide +kernel
theorem dX12_look_79 : decode cX12_look 79 = .ok (.iload_n 1, 1) := by decide +kernel
theorem dX12_look_80 : decode cX12_look 80 = .ok (.iload 6, 2) := by decide +kernel
theorem dX12_look_82 : decode cX12_look 82 = .ok (.invokestatic 248, 3) := by decide +kernel
theorem dX12_look_85 : decode cX12_look 85 = .ok (.ifCond .ne 6, 3) := by decide +kernel
theorem dX12_look_88 : decode cX12_look 88 = .ok (.goto 40, 3) := by decide +kernel
theorem dX12_look_91 : decode cX12_look 91 = .ok (.aload_n 0, 1) := by decide +kernel
theorem dX12_look_92 : decode cX12_look 92 = .ok (.iload 6, 2) := by decide +kernel
theorem dX12_look_94 : decode cX12_look 94 = .ok (.iload 4, 2) := by decide +kernel
theorem dX12_look_96 : decode cX12_look 96 = .ok (.invokevirtual 245, 3) := by decide +kernel
theorem dX12_look_99 : decode cX12_look 99 = .ok (.iconst 1, 1) := by decide +kernel
theorem dX12_look_100 : decode cX12_look 100 = .ok (.iadd, 1) := by decide +kernel
theorem dX12_look_101 : decode cX12_look 101 = .ok (.istore 7, 2) := by decide +kernel
theorem dX12_look_103 : decode cX12_look 103 = .ok (.aload_n 0, 1) := by decide +kernel
theorem dX12_look_104 : decode cX12_look 104 = .ok (.getfield 50, 3) := by decide +kernel
theorem dX12_look_107 : decode cX12_look 107 = .ok (.iload 7, 2) := by decide +kernel
theorem dX12_look_109 : decode cX12_look 109 = .ok (.dup2, 1) := by decide +kernel
theorem dX12_look_110 : decode cX12_look 110 = .ok (.iaload, 1) := by decide +kernel
theorem dX12_look_111 : decode cX12_look 111 = .ok (.iconst 1, 1) := by decide +kernel
theorem dX12_look_112 : decode cX12_look 112 = .ok (.iadd, 1) := by decide +kernel
theorem dX12_look_113 : decode cX12_look 113 = .ok (.iastore, 1) := by decide +kernel
theorem dX12_look_114 : decode cX12_look 114 = .ok (.iload 5, 2) := by decide +kernel
theorem dX12_look_116 : decode cX12_look 116 = .ok (.aload_n 0, 1) := by decide +kernel
theorem dX12_look_117 : decode cX12_look 117 = .ok (.getfield 50, 3) := by decide +kernel
theorem dX12_look_120 : decode cX12_look 120 = .ok (.iload 7, 2) := by decide +kernel
theorem dX12_look_122 : decode cX12_look 122 = .ok (.iaload, 1) := by decide +kernel
theorem dX12_look_123 : decode cX12_look 123 = .ok (.invokestatic 273, 3) := by decide +kernel
theorem dX12_look_126 : decode cX12_look 126 = .ok (.istore 5, 2) := by decide +kernel
theorem dX12_look_128 : decode cX12_look 128 = .ok (.iinc 6 1, 3) := by decide +kernel
theorem dX12_look_131 : decode cX12_look 131 = .ok (.goto (-63), 3) := by decide +kernel
theorem dX12_look_134 : decode cX12_look 134 = .ok (.iload 5, 2) := by decide +kernel
theorem dX12_look_136 : decode cX12_look 136 = .ok (.iload_n 3, 1) := by decide +kernel
theorem dX12_look_137 : decode cX12_look 137 = .ok (.if_icmp .lt 6, 3) := by decide +kernel
theorem dX12_look_140 : decode cX12_look 140 = .ok (.goto 9, 3) := by decide +kernel
theorem dX12_look_143 : decode cX12_look 143 = .ok (.iload 5, 2) := by decide +kernel
theorem dX12_look_145 : decode cX12_look 145 = .ok (.istore_n 3, 1) := by decide +kernel
theorem dX12_look_146 : decode cX12_look 146 = .ok (.iload 4, 2) := by decide +kernel
theorem dX12_look_148 : decode cX12_look 148 = .ok (.istore_n 2, 1) := by decide +kernel
theorem dX12_look_149 : decode cX12_look 149 = .ok (.iinc 4 1, 3) := by decide +kernel
theorem dX12_look_152 : decode cX12_look 152 = .ok (.goto (-129), 3) := by decide +kernel
theorem dX12_look_155 : decode cX12_look 155 = .ok (.iload_n 2, 1) := by decide +kernel
theorem dX12_look_156 : decode cX12_look 156 = .ok (.ireturn, 1) := by decide +kernel
theorem dX12_strokeRows_0 : decode cX12_strokeRows 0 = .ok (.aload_n 0, 1) := by decide +kernel
theorem dX12_strokeRows_1 : decode cX12_strokeRows 1 = .ok (.getfield 64, 3) := by decide +kernel
theorem dX12_strokeRows_4 : decode cX12_strokeRows 4 = .ok (.istore_n 1, 1) := by decide +kernel
theorem dX12_strokeRows_5 : decode cX12_strokeRows 5 = .ok (.aload_n 0, 1) := by decide +kernel
theorem dX12_strokeRows_6 : decode cX12_strokeRows 6 = .ok (.iconst 0, 1) := by decide +kernel
theorem dX12_strokeRows_7 : decode cX12_strokeRows 7 = .ok (.putfield 64, 3) := by decide +kernel
theorem dX12_strokeRows_10 : decode cX12_strokeRows 10 = .ok (.iload_n 1, 1) := by decide +kernel
theorem dX12_strokeRows_11 : decode cX12_strokeRows 11 = .ok (.iconst 2, 1) := by decide +kernel
theorem dX12_strokeRows_12 : decode cX12_strokeRows 12 = .ok (.irem, 1) := by decide +kernel
theorem dX12_strokeRows_13 : decode cX12_strokeRows 13 = .ok (.ifCond .ne 13, 3) := by decide +kernel
theorem dX12_strokeRows_16 : decode cX12_strokeRows 16 = .ok (.iload_n 1, 1) := by decide +kernel
theorem dX12_strokeRows_17 : decode cX12_strokeRows 17 = .ok (.bipush 40, 2) := by decide +kernel
theorem dX12_strokeRows_19 : decode cX12_strokeRows 19 = .ok (.if_icmp .gt 7, 3) := by decide +kernel
theorem dX12_strokeRows_22 : decode cX12_strokeRows 22 = .ok (.iconst 1, 1) := by decide +kernel
theorem dX12_strokeRows_23 : decode cX12_strokeRows 23 = .ok (.goto 4, 3) := by decide +kernel
theorem dX12_strokeRows_26 : decode cX12_strokeRows 26 = .ok (.iconst 0, 1) := by decide +kernel
theorem dX12_strokeRows_27 : decode cX12_strokeRows 27 = .ok (.istore_n 2, 1) := by decide +kernel
theorem dX12_strokeRows_28 : decode cX12_strokeRows 28 = .ok (.iconst 0, 1) := by decide +kernel
theorem dX12_strokeRows_29 : decode cX12_strokeRows 29 = .ok (.istore_n 3, 1) := by decide +kernel
theorem dX12_strokeRows_30 : decode cX12_strokeRows 30 = .ok (.iload_n 3, 1) := by decide +kernel
theorem dX12_strokeRows_31 : decode cX12_strokeRows 31 = .ok (.iload_n 1, 1) := by decide +kernel
theorem dX12_strokeRows_32 : decode cX12_strokeRows 32 = .ok (.if_icmp .ge 47, 3) := by decide +kernel
theorem dX12_strokeRows_35 : decode cX12_strokeRows 35 = .ok (.iload_n 2, 1) := by decide +kernel
theorem dX12_strokeRows_36 : decode cX12_strokeRows 36 = .ok (.ifCond .eq 43, 3) := by decide +kernel
theorem dX12_strokeRows_39 : decode cX12_strokeRows 39 = .ok (.aload_n 0, 1) := by decide +kernel
theorem dX12_strokeRows_40 : decode cX12_strokeRows 40 = .ok (.getfield 22, 3) := by decide +kernel
theorem dX12_strokeRows_43 : decode cX12_strokeRows 43 = .ok (.iload_n 3, 1) := by decide +kernel
theorem dX12_strokeRows_44 : decode cX12_strokeRows 44 = .ok (.iaload, 1) := by decide +kernel
theorem dX12_strokeRows_45 : decode cX12_strokeRows 45 = .ok (.aload_n 0, 1) := by decide +kernel
theorem dX12_strokeRows_46 : decode cX12_strokeRows 46 = .ok (.getfield 7, 3) := by decide +kernel
theorem dX12_strokeRows_49 : decode cX12_strokeRows 49 = .ok (.iconst 3, 1) := by decide +kernel
theorem dX12_strokeRows_50 : decode cX12_strokeRows 50 = .ok (.iaload, 1) := by decide +kernel
theorem dX12_strokeRows_51 : decode cX12_strokeRows 51 = .ok (.if_icmp .ge 20, 3) := by decide +kernel
theorem dX12_strokeRows_54 : decode cX12_strokeRows 54 = .ok (.aload_n 0, 1) := by decide +kernel
theorem dX12_strokeRows_55 : decode cX12_strokeRows 55 = .ok (.getfield 22, 3) := by decide +kernel
theorem dX12_strokeRows_58 : decode cX12_strokeRows 58 = .ok (.iload_n 3, 1) := by decide +kernel
theorem dX12_strokeRows_59 : decode cX12_strokeRows 59 = .ok (.iconst 1, 1) := by decide +kernel
theorem dX12_strokeRows_60 : decode cX12_strokeRows 60 = .ok (.iadd, 1) := by decide +kernel
theorem dX12_strokeRows_61 : decode cX12_strokeRows 61 = .ok (.iaload, 1) := by decide +kernel
theorem dX12_strokeRows_62 : decode cX12_strokeRows 62 = .ok (.bipush 6, 2) := by decide +kernel
theorem dX12_strokeRows_64 : decode cX12_strokeRows 64 = .ok (.if_icmp .gt 7, 3) := by decide +kernel
theorem dX12_strokeRows_67 : decode cX12_strokeRows 67 = .ok (.iconst 1, 1) := by decide +kernel
theorem dX12_strokeRows_68 : decode cX12_strokeRows 68 = .ok (.goto 4, 3) := by decide +kernel
theorem dX12_strokeRows_71 : decode cX12_strokeRows 71 = .ok (.iconst 0, 1) := by decide +kernel
theorem dX12_strokeRows_72 : decode cX12_strokeRows 72 = .ok (.istore_n 2, 1) := by decide +kernel
theorem dX12_strokeRows_73 : decode cX12_strokeRows 73 = .ok (.iinc 3 2, 3) := by decide +kernel
theorem dX12_strokeRows_76 : decode cX12_strokeRows 76 = .ok (.goto (-46), 3) := by decide +kernel
theorem dX12_strokeRows_79 : decode cX12_strokeRows 79 = .ok (.aload_n 0, 1) := by decide +kernel
theorem dX12_strokeRows_80 : decode cX12_strokeRows 80 = .ok (.iload_n 2, 1) := by decide +kernel
theorem dX12_strokeRows_81 : decode cX12_strokeRows 81 = .ok (.ifCond .eq 7, 3) := by decide +kernel
theorem dX12_strokeRows_84 : decode cX12_strokeRows 84 = .ok (.iconst 0, 1) := by decide +kernel
theorem dX12_strokeRows_85 : decode cX12_strokeRows 85 = .ok (.goto 4, 3) := by decide +kernel
theorem dX12_strokeRows_88 : decode cX12_strokeRows 88 = .ok (.iconst 1, 1) := by decide +kernel
theorem dX12_strokeRows_89 : decode cX12_strokeRows 89 = .ok (.putfield 57, 3) := by decide +kernel
theorem dX12_strokeRows_92 : decode cX12_strokeRows 92 = .ok (.iload_n 1, 1) := by decide +kernel
theorem dX12_strokeRows_93 : decode cX12_strokeRows 93 = .ok (.ireturn, 1) := by decide +kernel
theorem dX12_isByHand_0 : decode cX12_isByHand 0 = .ok (.iconst 1, 1) := by decide +kernel
theorem dX12_isByHand_1 : decode cX12_isByHand 1 = .ok (.istore_n 3, 1) := by decide +kernel
theorem dX12_isByHand_2 : decode cX12_isByHand 2 = .ok (.iconst 0, 1) := by decide +kernel
theorem dX12_isByHand_3 : decode cX12_isByHand 3 = .ok (.istore 4, 2) := by decide +kernel
theorem dX12_isByHand_5 : decode cX12_isByHand 5 = .ok (.iload 4, 2) := by decide +kernel
theorem dX12_isByHand_7 : decode cX12_isByHand 7 = .ok (.iload_n 2, 1) := by decide +kernel
theorem dX12_isByHand_8 : decode cX12_isByHand 8 = .ok (.if_icmp .ge 43, 3) := by decide +kernel
theorem dX12_isByHand_11 : decode cX12_isByHand 11 = .ok (.iload_n 3, 1) := by decide +kernel
theorem dX12_isByHand_12 : decode cX12_isByHand 12 = .ok (.ifCond .eq 39, 3) := by decide +kernel
theorem dX12_isByHand_15 : decode cX12_isByHand 15 = .ok (.aload_n 0, 1) := by decide +kernel
theorem dX12_isByHand_16 : decode cX12_isByHand 16 = .ok (.aload_n 0, 1) := by decide +kernel
theorem dX12_isByHand_17 : decode cX12_isByHand 17 = .ok (.getfield 22, 3) := by decide +kernel
theorem dX12_isByHand_20 : decode cX12_isByHand 20 = .ok (.iload 4, 2) := by decide +kernel
theorem dX12_isByHand_22 : decode cX12_isByHand 22 = .ok (.iaload, 1) := by decide +kernel
theorem dX12_isByHand_23 : decode cX12_isByHand 23 = .ok (.iload_n 1, 1) := by decide +kernel
theorem dX12_isByHand_24 : decode cX12_isByHand 24 = .ok (.invokevirtual 260, 3) := by decide +kernel
theorem dX12_isByHand_27 : decode cX12_isByHand 27 = .ok (.aload_n 0, 1) := by decide +kernel
theorem dX12_isByHand_28 : decode cX12_isByHand 28 = .ok (.getfield 22, 3) := by decide +kernel
theorem dX12_isByHand_31 : decode cX12_isByHand 31 = .ok (.iload 4, 2) := by decide +kernel
theorem dX12_isByHand_33 : decode cX12_isByHand 33 = .ok (.iconst 1, 1) := by decide +kernel
theorem dX12_isByHand_34 : decode cX12_isByHand 34 = .ok (.iadd, 1) := by decide +kernel
theorem dX12_isByHand_35 : decode cX12_isByHand 35 = .ok (.iaload, 1) := by decide +kernel
theorem dX12_isByHand_36 : decode cX12_isByHand 36 = .ok (.if_icmp .ne 7, 3) := by decide +kernel
theorem dX12_isByHand_39 : decode cX12_isByHand 39 = .ok (.iconst 1, 1) := by decide +kernel
theorem dX12_isByHand_40 : decode cX12_isByHand 40 = .ok (.goto 4, 3) := by decide +kernel
theorem dX12_isByHand_43 : decode cX12_isByHand 43 = .ok (.iconst 0, 1) := by decide +kernel
theorem dX12_isByHand_44 : decode cX12_isByHand 44 = .ok (.istore_n 3, 1) := by decide +kernel
theorem dX12_isByHand_45 : decode cX12_isByHand 45 = .ok (.iinc 4 2, 3) := by decide +kernel
theorem dX12_isByHand_48 : decode cX12_isByHand 48 = .ok (.goto (-43), 3) := by decide +kernel
theorem dX12_isByHand_51 : decode cX12_isByHand 51 = .ok (.iload_n 3, 1) := by decide +kernel
theorem dX12_isByHand_52 : decode cX12_isByHand 52 = .ok (.ireturn, 1) := by decide +kernel
theorem dX12_hands_0 : decode cX12_hands 0 = .ok (.iconst 0, 1) := by decide +kernel
theorem dX12_hands_1 : decode cX12_hands 1 = .ok (.istore_n 2, 1) := by decide +kernel
theorem dX12_hands_2 : decode cX12_hands 2 = .ok (.iconst 0, 1) := by decide +kernel
theorem dX12_hands_3 : decode cX12_hands 3 = .ok (.istore_n 3, 1) := by decide +kernel
theorem dX12_hands_4 : decode cX12_hands 4 = .ok (.iload_n 3, 1) := by decide +kernel
theorem dX12_hands_5 : decode cX12_hands 5 = .ok (.sipush 256, 3) := by decide +kernel
theorem dX12_hands_8 : decode cX12_hands 8 = .ok (.if_icmp .ge 38, 3) := by decide +kernel
theorem dX12_hands_11 : decode cX12_hands 11 = .ok (.aload_n 0, 1) := by decide +kernel
theorem dX12_hands_12 : decode cX12_hands 12 = .ok (.getfield 53, 3) := by decide +kernel
theorem dX12_hands_15 : decode cX12_hands 15 = .ok (.iload_n 3, 1) := by decide +kernel
theorem dX12_hands_16 : decode cX12_hands 16 = .ok (.aload_n 0, 1) := by decide +kernel
theorem dX12_hands_17 : decode cX12_hands 17 = .ok (.iload_n 3, 1) := by decide +kernel
theorem dX12_hands_18 : decode cX12_hands 18 = .ok (.iload_n 1, 1) := by decide +kernel
theorem dX12_hands_19 : decode cX12_hands 19 = .ok (.invokevirtual 375, 3) := by decide +kernel
theorem dX12_hands_22 : decode cX12_hands 22 = .ok (.bastore, 1) := by decide +kernel
theorem dX12_hands_23 : decode cX12_hands 23 = .ok (.iload_n 2, 1) := by decide +kernel
theorem dX12_hands_24 : decode cX12_hands 24 = .ok (.aload_n 0, 1) := by decide +kernel
theorem dX12_hands_25 : decode cX12_hands 25 = .ok (.getfield 53, 3) := by decide +kernel
theorem dX12_hands_28 : decode cX12_hands 28 = .ok (.iload_n 3, 1) := by decide +kernel
theorem dX12_hands_29 : decode cX12_hands 29 = .ok (.baload, 1) := by decide +kernel
theorem dX12_hands_30 : decode cX12_hands 30 = .ok (.ifCond .eq 7, 3) := by decide +kernel
theorem dX12_hands_33 : decode cX12_hands 33 = .ok (.iconst 1, 1) := by decide +kernel
theorem dX12_hands_34 : decode cX12_hands 34 = .ok (.goto 4, 3) := by decide +kernel
theorem dX12_hands_37 : decode cX12_hands 37 = .ok (.iconst 0, 1) := by decide +kernel
theorem dX12_hands_38 : decode cX12_hands 38 = .ok (.iadd, 1) := by decide +kernel
theorem dX12_hands_39 : decode cX12_hands 39 = .ok (.istore_n 2, 1) := by decide +kernel
theorem dX12_hands_40 : decode cX12_hands 40 = .ok (.iinc 3 1, 3) := by decide +kernel
theorem dX12_hands_43 : decode cX12_hands 43 = .ok (.goto (-39), 3) := by decide +kernel
theorem dX12_hands_46 : decode cX12_hands 46 = .ok (.iload_n 2, 1) := by decide +kernel
theorem dX12_hands_47 : decode cX12_hands 47 = .ok (.ireturn, 1) := by decide +kernel
theorem dX12_hand_0 : decode cX12_hand 0 = .ok (.aload_n 0, 1) := by decide +kernel
theorem dX12_hand_1 : decode cX12_hand 1 = .ok (.invokevirtual 378, 3) := by decide +kernel
theorem dX12_hand_4 : decode cX12_hand 4 = .ok (.istore_n 2, 1) := by decide +kernel
theorem dX12_hand_5 : decode cX12_hand 5 = .ok (.aload_n 0, 1) := by decide +kernel
theorem dX12_hand_6 : decode cX12_hand 6 = .ok (.getfield 57, 3) := by decide +kernel
theorem dX12_hand_9 : decode cX12_hand 9 = .ok (.ifCond .le 5, 3) := by decide +kernel
theorem dX12_hand_12 : decode cX12_hand 12 = .ok (.iconst 0, 1) := by decide +kernel
theorem dX12_hand_13 : decode cX12_hand 13 = .ok (.ireturn, 1) := by decide +kernel
theorem dX12_hand_14 : decode cX12_hand 14 = .ok (.aload_n 0, 1) := by decide +kernel
theorem dX12_hand_15 : decode cX12_hand 15 = .ok (.iload_n 2, 1) := by decide +kernel
theorem dX12_hand_16 : decode cX12_hand 16 = .ok (.invokevirtual 381, 3) := by decide +kernel
theorem dX12_hand_19 : decode cX12_hand 19 = .ok (.istore_n 3, 1) := by decide +kernel
theorem dX12_hand_20 : decode cX12_hand 20 = .ok (.iload_n 1, 1) := by decide +kernel
theorem dX12_hand_21 : decode cX12_hand 21 = .ok (.ifCond .ne 5, 3) := by decide +kernel
theorem dX12_hand_24 : decode cX12_hand 24 = .ok (.iload_n 3, 1) := by decide +kernel
theorem dX12_hand_25 : decode cX12_hand 25 = .ok (.ireturn, 1) := by decide +kernel
theorem dX12_hand_26 : decode cX12_hand 26 = .ok (.iconst 0, 1) := by decide +kernel
theorem dX12_hand_27 : decode cX12_hand 27 = .ok (.istore 4, 2) := by decide +kernel
theorem dX12_hand_29 : decode cX12_hand 29 = .ok (.iload 4, 2) := by decide +kernel
theorem dX12_hand_31 : decode cX12_hand 31 = .ok (.sipush 256, 3) := by decide +kernel
theorem dX12_hand_34 : decode cX12_hand 34 = .ok (.if_icmp .ge 22, 3) := by decide +kernel
theorem dX12_hand_37 : decode cX12_hand 37 = .ok (.aload_n 0, 1) := by decide +kernel
theorem dX12_hand_38 : decode cX12_hand 38 = .ok (.getfield 53, 3) := by decide +kernel
theorem dX12_hand_41 : decode cX12_hand 41 = .ok (.iload 4, 2) := by decide +kernel
theorem dX12_hand_43 : decode cX12_hand 43 = .ok (.baload, 1) := by decide +kernel
theorem dX12_hand_44 : decode cX12_hand 44 = .ok (.ifCond .eq 6, 3) := by decide +kernel
theorem dX12_hand_47 : decode cX12_hand 47 = .ok (.iload 4, 2) := by decide +kernel
theorem dX12_hand_49 : decode cX12_hand 49 = .ok (.ireturn, 1) := by decide +kernel
theorem dX12_hand_50 : decode cX12_hand 50 = .ok (.iinc 4 1, 3) := by decide +kernel
theorem dX12_hand_53 : decode cX12_hand 53 = .ok (.goto (-24), 3) := by decide +kernel
theorem dX12_hand_56 : decode cX12_hand 56 = .ok (.iconst (-1), 1) := by decide +kernel
theorem dX12_hand_57 : decode cX12_hand 57 = .ok (.ireturn, 1) := by decide +kernel
theorem dX12_ask_0 : decode cX12_ask 0 = .ok (.aload_n 0, 1) := by decide +kernel
theorem dX12_ask_1 : decode cX12_ask 1 = .ok (.invokevirtual 378, 3) := by decide +kernel
theorem dX12_ask_4 : decode cX12_ask 4 = .ok (.istore_n 1, 1) := by decide +kernel
theorem dX12_ask_5 : decode cX12_ask 5 = .ok (.aload_n 0, 1) := by decide +kernel
theorem dX12_ask_6 : decode cX12_ask 6 = .ok (.getfield 57, 3) := by decide +kernel
theorem dX12_ask_9 : decode cX12_ask 9 = .ok (.ifCond .le 5, 3) := by decide +kernel
theorem dX12_ask_12 : decode cX12_ask 12 = .ok (.iconst 0, 1) := by decide +kernel
theorem dX12_ask_13 : decode cX12_ask 13 = .ok (.ireturn, 1) := by decide +kernel
theorem dX12_ask_14 : decode cX12_ask 14 = .ok (.aload_n 0, 1) := by decide +kernel
theorem dX12_ask_15 : decode cX12_ask 15 = .ok (.iload_n 1, 1) := by decide +kernel
theorem dX12_ask_16 : decode cX12_ask 16 = .ok (.invokevirtual 381, 3) := by decide +kernel
theorem dX12_ask_19 : decode cX12_ask 19 = .ok (.istore_n 2, 1) := by decide +kernel
theorem dX12_ask_20 : decode cX12_ask 20 = .ok (.iconst (-1), 1) := by decide +kernel
theorem dX12_ask_21 : decode cX12_ask 21 = .ok (.istore_n 3, 1) := by decide +kernel
theorem dX12_ask_22 : decode cX12_ask 22 = .ok (.ldc_w 305, 3) := by decide +kernel
theorem dX12_ask_25 : decode cX12_ask 25 = .ok (.istore 4, 2) := by decide +kernel
theorem dX12_ask_27 : decode cX12_ask 27 = .ok (.iconst 0, 1) := by decide +kernel
theorem dX12_ask_28 : decode cX12_ask 28 = .ok (.istore 5, 2) := by decide +kernel
theorem dX12_ask_30 : decode cX12_ask 30 = .ok (.iload 5, 2) := by decide +kernel
theorem dX12_ask_32 : decode cX12_ask 32 = .ok (.aload_n 0, 1) := by decide +kernel
theorem dX12_ask_33 : decode cX12_ask 33 = .ok (.getfield 7, 3) := by decide +kernel
theorem dX12_ask_36 : decode cX12_ask 36 = .ok (.iconst 3, 1) := by decide +kernel
theorem dX12_ask_37 : decode cX12_ask 37 = .ok (.iaload, 1) := by decide +kernel
theorem dX12_ask_38 : decode cX12_ask 38 = .ok (.if_icmp .ge 123, 3) := by decide +kernel
theorem dX12_ask_41 : decode cX12_ask 41 = .ok (.iload_n 2, 1) := by decide +kernel
theorem dX12_ask_42 : decode cX12_ask 42 = .ok (.iconst 1, 1) := by decide +kernel
theorem dX12_ask_43 : decode cX12_ask 43 = .ok (.if_icmp .le 118, 3) := by decide +kernel
theorem dX12_ask_46 : decode cX12_ask 46 = .ok (.iconst 0, 1) := by decide +kernel
theorem dX12_ask_47 : decode cX12_ask 47 = .ok (.istore 6, 2) := by decide +kernel
theorem dX12_ask_49 : decode cX12_ask 49 = .ok (.iload 6, 2) := by decide +kernel
theorem dX12_ask_51 : decode cX12_ask 51 = .ok (.bipush 9, 2) := by decide +kernel
theorem dX12_ask_53 : decode cX12_ask 53 = .ok (.if_icmp .ge 17, 3) := by decide +kernel
theorem dX12_ask_56 : decode cX12_ask 56 = .ok (.aload_n 0, 1) := by decide +kernel
theorem dX12_ask_57 : decode cX12_ask 57 = .ok (.getfield 50, 3) := by decide +kernel
theorem dX12_ask_60 : decode cX12_ask 60 = .ok (.iload 6, 2) := by decide +kernel
theorem dX12_ask_62 : decode cX12_ask 62 = .ok (.iconst 0, 1) := by decide +kernel
theorem dX12_ask_63 : decode cX12_ask 63 = .ok (.iastore, 1) := by decide +kernel
theorem dX12_ask_64 : decode cX12_ask 64 = .ok (.iinc 6 1, 3) := by decide +kernel
theorem dX12_ask_67 : decode cX12_ask 67 = .ok (.goto (-18), 3) := by decide +kernel
theorem dX12_ask_70 : decode cX12_ask 70 = .ok (.iconst 0, 1) := by decide +kernel
theorem dX12_ask_71 : decode cX12_ask 71 = .ok (.istore 6, 2) := by decide +kernel
theorem dX12_ask_73 : decode cX12_ask 73 = .ok (.iconst 0, 1) := by decide +kernel
theorem dX12_ask_74 : decode cX12_ask 74 = .ok (.istore 7, 2) := by decide +kernel
theorem dX12_ask_76 : decode cX12_ask 76 = .ok (.iload 7, 2) := by decide +kernel
theorem dX12_ask_78 : decode cX12_ask 78 = .ok (.sipush 256, 3) := by decide +kernel
theorem dX12_ask_81 : decode cX12_ask 81 = .ok (.if_icmp .ge 57, 3) := by decide +kernel
theorem dX12_ask_84 : decode cX12_ask 84 = .ok (.aload_n 0, 1) := by decide +kernel
theorem dX12_ask_85 : decode cX12_ask 85 = .ok (.getfield 53, 3) := by decide +kernel
theorem dX12_ask_88 : decode cX12_ask 88 = .ok (.iload 7, 2) := by decide +kernel
theorem dX12_ask_90 : decode cX12_ask 90 = .ok (.baload, 1) := by decide +kernel
theorem dX12_ask_91 : decode cX12_ask 91 = .ok (.ifCond .ne 6, 3) := by decide +kernel
theorem dX12_ask_94 : decode cX12_ask 94 = .ok (.goto 38, 3) := by decide +kernel
theorem dX12_ask_97 : decode cX12_ask 97 = .ok (.aload_n 0, 1) := by decide +kernel
theorem dX12_ask_98 : decode cX12_ask 98 = .ok (.iload 5, 2) := by decide +kernel
theorem dX12_ask_100 : decode cX12_ask 100 = .ok (.iload 7, 2) := by decide +kernel
theorem dX12_ask_102 : decode cX12_ask 102 = .ok (.invokevirtual 260, 3) := by decide +kernel
theorem dX12_ask_105 : decode cX12_ask 105 = .ok (.istore 8, 2) := by decide +kernel
theorem dX12_ask_107 : decode cX12_ask 107 = .ok (.aload_n 0, 1) := by decide +kernel
theorem dX12_ask_108 : decode cX12_ask 108 = .ok (.getfield 50, 3) := by decide +kernel
theorem dX12_ask_111 : decode cX12_ask 111 = .ok (.iload 8, 2) := by decide +kernel
theorem dX12_ask_113 : decode cX12_ask 113 = .ok (.dup2, 1) := by decide +kernel
theorem dX12_ask_114 : decode cX12_ask 114 = .ok (.iaload, 1) := by decide +kernel
theorem dX12_ask_115 : decode cX12_ask 115 = .ok (.iconst 1, 1) := by decide +kernel
theorem dX12_ask_116 : decode cX12_ask 116 = .ok (.iadd, 1) := by decide +kernel
theorem dX12_ask_117 : decode cX12_ask 117 = .ok (.iastore, 1) := by decide +kernel
theorem dX12_ask_118 : decode cX12_ask 118 = .ok (.iload 6, 2) := by decide +kernel
theorem dX12_ask_120 : decode cX12_ask 120 = .ok (.aload_n 0, 1) := by decide +kernel
theorem dX12_ask_121 : decode cX12_ask 121 = .ok (.getfield 50, 3) := by decide +kernel
theorem dX12_ask_124 : decode cX12_ask 124 = .ok (.iload 8, 2) := by decide +kernel
theorem dX12_ask_126 : decode cX12_ask 126 = .ok (.iaload, 1) := by decide +kernel
theorem dX12_ask_127 : decode cX12_ask 127 = .ok (.invokestatic 273, 3) := by decide +kernel
theorem dX12_ask_130 : decode cX12_ask 130 = .ok (.istore 6, 2) := by decide +kernel
theorem dX12_ask_132 : decode cX12_ask 132 = .ok (.iinc 7 1, 3) := by decide +kernel
theorem dX12_ask_135 : decode cX12_ask 135 = .ok (.goto (-59), 3) := by decide +kernel
theorem dX12_ask_138 : decode cX12_ask 138 = .ok (.iload 6, 2) := by decide +kernel
theorem dX12_ask_140 : decode cX12_ask 140 = .ok (.iload 4, 2) := by decide +kernel
theorem dX12_ask_142 : decode cX12_ask 142 = .ok (.if_icmp .lt 6, 3) := by decide +kernel
theorem dX12_ask_145 : decode cX12_ask 145 = .ok (.goto 10, 3) := by decide +kernel
theorem dX12_ask_148 : decode cX12_ask 148 = .ok (.iload 6, 2) := by decide +kernel
theorem dX12_ask_150 : decode cX12_ask 150 = .ok (.istore 4, 2) := by decide +kernel
theorem dX12_ask_152 : decode cX12_ask 152 = .ok (.iload 5, 2) := by decide +kernel
theorem dX12_ask_154 : decode cX12_ask 154 = .ok (.istore_n 3, 1) := by decide +kernel
theorem dX12_ask_155 : decode cX12_ask 155 = .ok (.iinc 5 1, 3) := by decide +kernel
theorem dX12_ask_158 : decode cX12_ask 158 = .ok (.goto (-128), 3) := by decide +kernel
theorem dX12_ask_161 : decode cX12_ask 161 = .ok (.iload_n 3, 1) := by decide +kernel
theorem dX12_ask_162 : decode cX12_ask 162 = .ok (.ireturn, 1) := by decide +kernel
theorem dX12_whose_0 : decode cX12_whose 0 = .ok (.aload_n 0, 1) := by decide +kernel
theorem dX12_whose_1 : decode cX12_whose 1 = .ok (.invokevirtual 378, 3) := by decide +kernel
theorem dX12_whose_4 : decode cX12_whose 4 = .ok (.istore_n 1, 1) := by decide +kernel
theorem dX12_whose_5 : decode cX12_whose 5 = .ok (.aload_n 0, 1) := by decide +kernel
theorem dX12_whose_6 : decode cX12_whose 6 = .ok (.getfield 57, 3) := by decide +kernel
theorem dX12_whose_9 : decode cX12_whose 9 = .ok (.ifCond .le 5, 3) := by decide +kernel
theorem dX12_whose_12 : decode cX12_whose 12 = .ok (.iconst 0, 1) := by decide +kernel
theorem dX12_whose_13 : decode cX12_whose 13 = .ok (.ireturn, 1) := by decide +kernel
theorem dX12_whose_14 : decode cX12_whose 14 = .ok (.iconst 0, 1) := by decide +kernel
theorem dX12_whose_15 : decode cX12_whose 15 = .ok (.istore_n 2, 1) := by decide +kernel
theorem dX12_whose_16 : decode cX12_whose 16 = .ok (.iconst 0, 1) := by decide +kernel
theorem dX12_whose_17 : decode cX12_whose 17 = .ok (.istore_n 3, 1) := by decide +kernel
theorem dX12_whose_18 : decode cX12_whose 18 = .ok (.iload_n 3, 1) := by decide +kernel
theorem dX12_whose_19 : decode cX12_whose 19 = .ok (.aload_n 0, 1) := by decide +kernel
theorem dX12_whose_20 : decode cX12_whose 20 = .ok (.getfield 7, 3) := by decide +kernel
theorem dX12_whose_23 : decode cX12_whose 23 = .ok (.iconst 4, 1) := by decide +kernel
theorem dX12_whose_24 : decode cX12_whose 24 = .ok (.iaload, 1) := by decide +kernel
theorem dX12_whose_25 : decode cX12_whose 25 = .ok (.if_icmp .ge 33, 3) := by decide +kernel
theorem dX12_whose_28 : decode cX12_whose 28 = .ok (.iload_n 2, 1) := by decide +kernel
theorem dX12_whose_29 : decode cX12_whose 29 = .ok (.aload_n 0, 1) := by decide +kernel
theorem dX12_whose_30 : decode cX12_whose 30 = .ok (.aload_n 0, 1) := by decide +kernel
theorem dX12_whose_31 : decode cX12_whose 31 = .ok (.iload_n 3, 1) := by decide +kernel
theorem dX12_whose_32 : decode cX12_whose 32 = .ok (.iconst 0, 1) := by decide +kernel
theorem dX12_whose_33 : decode cX12_whose 33 = .ok (.invokevirtual 263, 3) := by decide +kernel
theorem dX12_whose_36 : decode cX12_whose 36 = .ok (.iload_n 1, 1) := by decide +kernel
theorem dX12_whose_37 : decode cX12_whose 37 = .ok (.invokevirtual 375, 3) := by decide +kernel
theorem dX12_whose_40 : decode cX12_whose 40 = .ok (.ifCond .eq 9, 3) := by decide +kernel
theorem dX12_whose_43 : decode cX12_whose 43 = .ok (.iconst 1, 1) := by decide +kernel
theorem dX12_whose_44 : decode cX12_whose 44 = .ok (.iload_n 3, 1) := by decide +kernel
theorem dX12_whose_45 : decode cX12_whose 45 = .ok (.ishl, 1) := by decide +kernel
theorem dX12_whose_46 : decode cX12_whose 46 = .ok (.goto 4, 3) := by decide +kernel
theorem dX12_whose_49 : decode cX12_whose 49 = .ok (.iconst 0, 1) := by decide +kernel
theorem dX12_whose_50 : decode cX12_whose 50 = .ok (.ior, 1) := by decide +kernel
theorem dX12_whose_51 : decode cX12_whose 51 = .ok (.istore_n 2, 1) := by decide +kernel
theorem dX12_whose_52 : decode cX12_whose 52 = .ok (.iinc 3 1, 3) := by decide +kernel
theorem dX12_whose_55 : decode cX12_whose 55 = .ok (.goto (-37), 3) := by decide +kernel
theorem dX12_whose_58 : decode cX12_whose 58 = .ok (.iload_n 2, 1) := by decide +kernel
theorem dX12_whose_59 : decode cX12_whose 59 = .ok (.ireturn, 1) := by decide +kernel
theorem dX12_fluent_0 : decode cX12_fluent 0 = .ok (.aload_n 0, 1) := by decide +kernel
theorem dX12_fluent_1 : decode cX12_fluent 1 = .ok (.iconst 0, 1) := by decide +kernel
theorem dX12_fluent_2 : decode cX12_fluent 2 = .ok (.putfield 57, 3) := by decide +kernel
theorem dX12_fluent_5 : decode cX12_fluent 5 = .ok (.iconst 0, 1) := by decide +kernel
theorem dX12_fluent_6 : decode cX12_fluent 6 = .ok (.istore_n 1, 1) := by decide +kernel
theorem dX12_fluent_7 : decode cX12_fluent 7 = .ok (.iconst 0, 1) := by decide +kernel
theorem dX12_fluent_8 : decode cX12_fluent 8 = .ok (.istore_n 2, 1) := by decide +kernel
theorem dX12_fluent_9 : decode cX12_fluent 9 = .ok (.iload_n 2, 1) := by decide +kernel
theorem dX12_fluent_10 : decode cX12_fluent 10 = .ok (.aload_n 0, 1) := by decide +kernel
theorem dX12_fluent_11 : decode cX12_fluent 11 = .ok (.getfield 7, 3) := by decide +kernel
theorem dX12_fluent_14 : decode cX12_fluent 14 = .ok (.iconst 4, 1) := by decide +kernel
theorem dX12_fluent_15 : decode cX12_fluent 15 = .ok (.iaload, 1) := by decide +kernel
theorem dX12_fluent_16 : decode cX12_fluent 16 = .ok (.if_icmp .ge 35, 3) := by decide +kernel
theorem dX12_fluent_19 : decode cX12_fluent 19 = .ok (.iload_n 1, 1) := by decide +kernel
theorem dX12_fluent_20 : decode cX12_fluent 20 = .ok (.aload_n 0, 1) := by decide +kernel
theorem dX12_fluent_21 : decode cX12_fluent 21 = .ok (.iload_n 2, 1) := by decide +kernel
theorem dX12_fluent_22 : decode cX12_fluent 22 = .ok (.aload_n 0, 1) := by decide +kernel
theorem dX12_fluent_23 : decode cX12_fluent 23 = .ok (.getfield 7, 3) := by decide +kernel
theorem dX12_fluent_26 : decode cX12_fluent 26 = .ok (.bipush 7, 2) := by decide +kernel
theorem dX12_fluent_28 : decode cX12_fluent 28 = .ok (.iaload, 1) := by decide +kernel
theorem dX12_fluent_29 : decode cX12_fluent 29 = .ok (.iconst 0, 1) := by decide +kernel
theorem dX12_fluent_30 : decode cX12_fluent 30 = .ok (.invokevirtual 325, 3) := by decide +kernel
theorem dX12_fluent_33 : decode cX12_fluent 33 = .ok (.ifCond .ne 9, 3) := by decide +kernel
theorem dX12_fluent_36 : decode cX12_fluent 36 = .ok (.iconst 1, 1) := by decide +kernel
theorem dX12_fluent_37 : decode cX12_fluent 37 = .ok (.iload_n 2, 1) := by decide +kernel
theorem dX12_fluent_38 : decode cX12_fluent 38 = .ok (.ishl, 1) := by decide +kernel
theorem dX12_fluent_39 : decode cX12_fluent 39 = .ok (.goto 4, 3) := by decide +kernel
theorem dX12_fluent_42 : decode cX12_fluent 42 = .ok (.iconst 0, 1) := by decide +kernel
theorem dX12_fluent_43 : decode cX12_fluent 43 = .ok (.ior, 1) := by decide +kernel
theorem dX12_fluent_44 : decode cX12_fluent 44 = .ok (.istore_n 1, 1) := by decide +kernel
theorem dX12_fluent_45 : decode cX12_fluent 45 = .ok (.iinc 2 1, 3) := by decide +kernel
theorem dX12_fluent_48 : decode cX12_fluent 48 = .ok (.goto (-39), 3) := by decide +kernel
theorem dX12_fluent_51 : decode cX12_fluent 51 = .ok (.iload_n 1, 1) := by decide +kernel
theorem dX12_fluent_52 : decode cX12_fluent 52 = .ok (.ireturn, 1) := by decide +kernel
theorem dX12_better_0 : decode cX12_better 0 = .ok (.aload_n 0, 1) := by decide +kernel
theorem dX12_better_1 : decode cX12_better 1 = .ok (.aload_n 0, 1) := by decide +kernel
theorem dX12_better_2 : decode cX12_better 2 = .ok (.iload_n 1, 1) := by decide +kernel
theorem dX12_better_3 : decode cX12_better 3 = .ok (.invokevirtual 329, 3) := by decide +kernel
theorem dX12_better_6 : decode cX12_better 6 = .ok (.ifCond .eq 11, 3) := by decide +kernel
theorem dX12_better_9 : decode cX12_better 9 = .ok (.aload_n 0, 1) := by decide +kernel
theorem dX12_better_10 : decode cX12_better 10 = .ok (.iload_n 2, 1) := by decide +kernel
theorem dX12_better_11 : decode cX12_better 11 = .ok (.invokevirtual 329, 3) := by decide +kernel
theorem dX12_better_14 : decode cX12_better 14 = .ok (.ifCond .ne 7, 3) := by decide +kernel
theorem dX12_better_17 : decode cX12_better 17 = .ok (.iconst 1, 1) := by decide +kernel
theorem dX12_better_18 : decode cX12_better 18 = .ok (.goto 13, 3) := by decide +kernel
theorem dX12_better_21 : decode cX12_better 21 = .ok (.iload_n 1, 1) := by decide +kernel
theorem dX12_better_22 : decode cX12_better 22 = .ok (.iload_n 2, 1) := by decide +kernel
theorem dX12_better_23 : decode cX12_better 23 = .ok (.if_icmp .ne 7, 3) := by decide +kernel
theorem dX12_better_26 : decode cX12_better 26 = .ok (.iconst 2, 1) := by decide +kernel
theorem dX12_better_27 : decode cX12_better 27 = .ok (.goto 4, 3) := by decide +kernel
theorem dX12_better_30 : decode cX12_better 30 = .ok (.iconst 0, 1) := by decide +kernel
theorem dX12_better_31 : decode cX12_better 31 = .ok (.putfield 57, 3) := by decide +kernel
theorem dX12_better_34 : decode cX12_better 34 = .ok (.aload_n 0, 1) := by decide +kernel
theorem dX12_better_35 : decode cX12_better 35 = .ok (.getfield 57, 3) := by decide +kernel
theorem dX12_better_38 : decode cX12_better 38 = .ok (.ifCond .ne 20, 3) := by decide +kernel
theorem dX12_better_41 : decode cX12_better 41 = .ok (.aload_n 0, 1) := by decide +kernel
theorem dX12_better_42 : decode cX12_better 42 = .ok (.iload_n 1, 1) := by decide +kernel
theorem dX12_better_43 : decode cX12_better 43 = .ok (.invokevirtual 347, 3) := by decide +kernel
theorem dX12_better_46 : decode cX12_better 46 = .ok (.aload_n 0, 1) := by decide +kernel
theorem dX12_better_47 : decode cX12_better 47 = .ok (.iload_n 2, 1) := by decide +kernel
theorem dX12_better_48 : decode cX12_better 48 = .ok (.invokevirtual 347, 3) := by decide +kernel
theorem dX12_better_51 : decode cX12_better 51 = .ok (.if_icmp .le 7, 3) := by decide +kernel
theorem dX12_better_54 : decode cX12_better 54 = .ok (.iconst 1, 1) := by decide +kernel
theorem dX12_better_55 : decode cX12_better 55 = .ok (.goto 4, 3) := by decide +kernel
theorem dX12_better_58 : decode cX12_better 58 = .ok (.iconst 0, 1) := by decide +kernel
theorem dX12_better_59 : decode cX12_better 59 = .ok (.ireturn, 1) := by decide +kernel
theorem dX12_areWords_0 : decode cX12_areWords 0 = .ok (.aload_n 0, 1) := by decide +kernel
theorem dX12_areWords_1 : decode cX12_areWords 1 = .ok (.aload_n 0, 1) := by decide +kernel
theorem dX12_areWords_2 : decode cX12_areWords 2 = .ok (.iload_n 1, 1) := by decide +kernel
theorem dX12_areWords_3 : decode cX12_areWords 3 = .ok (.invokevirtual 316, 3) := by decide +kernel
theorem dX12_areWords_6 : decode cX12_areWords 6 = .ok (.ifCond .eq 11, 3) := by decide +kernel
theorem dX12_areWords_9 : decode cX12_areWords 9 = .ok (.aload_n 0, 1) := by decide +kernel
theorem dX12_areWords_10 : decode cX12_areWords 10 = .ok (.iload_n 2, 1) := by decide +kernel
theorem dX12_areWords_11 : decode cX12_areWords 11 = .ok (.invokevirtual 316, 3) := by decide +kernel
theorem dX12_areWords_14 : decode cX12_areWords 14 = .ok (.ifCond .ne 7, 3) := by decide +kernel
theorem dX12_areWords_17 : decode cX12_areWords 17 = .ok (.iconst 1, 1) := by decide +kernel
theorem dX12_areWords_18 : decode cX12_areWords 18 = .ok (.goto 4, 3) := by decide +kernel
theorem dX12_areWords_21 : decode cX12_areWords 21 = .ok (.iconst 0, 1) := by decide +kernel
theorem dX12_areWords_22 : decode cX12_areWords 22 = .ok (.putfield 57, 3) := by decide +kernel
theorem dX12_areWords_25 : decode cX12_areWords 25 = .ok (.return_, 1) := by decide +kernel
theorem dX12_change_0 : decode cX12_change 0 = .ok (.aload_n 0, 1) := by decide +kernel
theorem dX12_change_1 : decode cX12_change 1 = .ok (.iload_n 1, 1) := by decide +kernel
theorem dX12_change_2 : decode cX12_change 2 = .ok (.iload_n 2, 1) := by decide +kernel
theorem dX12_change_3 : decode cX12_change 3 = .ok (.invokevirtual 384, 3) := by decide +kernel
theorem dX12_change_6 : decode cX12_change 6 = .ok (.aload_n 0, 1) := by decide +kernel
theorem dX12_change_7 : decode cX12_change 7 = .ok (.getfield 57, 3) := by decide +kernel
theorem dX12_change_10 : decode cX12_change 10 = .ok (.ifCond .le 7, 3) := by decide +kernel
theorem dX12_change_13 : decode cX12_change 13 = .ok (.iconst 0, 1) := by decide +kernel
theorem dX12_change_14 : decode cX12_change 14 = .ok (.goto 9, 3) := by decide +kernel
theorem dX12_change_17 : decode cX12_change 17 = .ok (.aload_n 0, 1) := by decide +kernel
theorem dX12_change_18 : decode cX12_change 18 = .ok (.iload_n 1, 1) := by decide +kernel
theorem dX12_change_19 : decode cX12_change 19 = .ok (.iload_n 2, 1) := by decide +kernel
theorem dX12_change_20 : decode cX12_change 20 = .ok (.invokevirtual 306, 3) := by decide +kernel
theorem dX12_change_23 : decode cX12_change 23 = .ok (.ireturn, 1) := by decide +kernel
theorem dX12_chain_0 : decode cX12_chain 0 = .ok (.aload_n 0, 1) := by decide +kernel
theorem dX12_chain_1 : decode cX12_chain 1 = .ok (.iload_n 1, 1) := by decide +kernel
theorem dX12_chain_2 : decode cX12_chain 2 = .ok (.iload_n 2, 1) := by decide +kernel
theorem dX12_chain_3 : decode cX12_chain 3 = .ok (.invokevirtual 384, 3) := by decide +kernel
theorem dX12_chain_6 : decode cX12_chain 6 = .ok (.aload_n 0, 1) := by decide +kernel
theorem dX12_chain_7 : decode cX12_chain 7 = .ok (.getfield 57, 3) := by decide +kernel
theorem dX12_chain_10 : decode cX12_chain 10 = .ok (.ifCond .le 5, 3) := by decide +kernel
theorem dX12_chain_13 : decode cX12_chain 13 = .ok (.iconst 0, 1) := by decide +kernel
theorem dX12_chain_14 : decode cX12_chain 14 = .ok (.ireturn, 1) := by decide +kernel
theorem dX12_chain_15 : decode cX12_chain 15 = .ok (.iconst 1, 1) := by decide +kernel
theorem dX12_chain_16 : decode cX12_chain 16 = .ok (.iload_n 1, 1) := by decide +kernel
theorem dX12_chain_17 : decode cX12_chain 17 = .ok (.ishl, 1) := by decide +kernel
theorem dX12_chain_18 : decode cX12_chain 18 = .ok (.istore_n 3, 1) := by decide +kernel
theorem dX12_chain_19 : decode cX12_chain 19 = .ok (.iconst 0, 1) := by decide +kernel
theorem dX12_chain_20 : decode cX12_chain 20 = .ok (.istore 4, 2) := by decide +kernel
theorem dX12_chain_22 : decode cX12_chain 22 = .ok (.iload 4, 2) := by decide +kernel
theorem dX12_chain_24 : decode cX12_chain 24 = .ok (.bipush 8, 2) := by decide +kernel
theorem dX12_chain_26 : decode cX12_chain 26 = .ok (.if_icmp .ge 96, 3) := by decide +kernel
theorem dX12_chain_29 : decode cX12_chain 29 = .ok (.iload_n 3, 1) := by decide +kernel
theorem dX12_chain_30 : decode cX12_chain 30 = .ok (.iload_n 2, 1) := by decide +kernel
theorem dX12_chain_31 : decode cX12_chain 31 = .ok (.invokestatic 248, 3) := by decide +kernel
theorem dX12_chain_34 : decode cX12_chain 34 = .ok (.ifCond .eq 6, 3) := by decide +kernel
theorem dX12_chain_37 : decode cX12_chain 37 = .ok (.iload 4, 2) := by decide +kernel
theorem dX12_chain_39 : decode cX12_chain 39 = .ok (.ireturn, 1) := by decide +kernel
theorem dX12_chain_40 : decode cX12_chain 40 = .ok (.iload_n 3, 1) := by decide +kernel
theorem dX12_chain_41 : decode cX12_chain 41 = .ok (.istore 5, 2) := by decide +kernel
theorem dX12_chain_43 : decode cX12_chain 43 = .ok (.iconst 0, 1) := by decide +kernel
theorem dX12_chain_44 : decode cX12_chain 44 = .ok (.istore 6, 2) := by decide +kernel
theorem dX12_chain_46 : decode cX12_chain 46 = .ok (.iload 6, 2) := by decide +kernel
theorem dX12_chain_48 : decode cX12_chain 48 = .ok (.aload_n 0, 1) := by decide +kernel
theorem dX12_chain_49 : decode cX12_chain 49 = .ok (.getfield 7, 3) := by decide +kernel
theorem dX12_chain_52 : decode cX12_chain 52 = .ok (.iconst 3, 1) := by decide +kernel
theorem dX12_chain_53 : decode cX12_chain 53 = .ok (.iaload, 1) := by decide +kernel
theorem dX12_chain_54 : decode cX12_chain 54 = .ok (.if_icmp .ge 59, 3) := by decide +kernel
theorem dX12_chain_57 : decode cX12_chain 57 = .ok (.iconst 0, 1) := by decide +kernel
theorem dX12_chain_58 : decode cX12_chain 58 = .ok (.istore 7, 2) := by decide +kernel
theorem dX12_chain_60 : decode cX12_chain 60 = .ok (.iload 7, 2) := by decide +kernel
theorem dX12_chain_62 : decode cX12_chain 62 = .ok (.aload_n 0, 1) := by decide +kernel
theorem dX12_chain_63 : decode cX12_chain 63 = .ok (.getfield 7, 3) := by decide +kernel
theorem dX12_chain_66 : decode cX12_chain 66 = .ok (.iconst 3, 1) := by decide +kernel
theorem dX12_chain_67 : decode cX12_chain 67 = .ok (.iaload, 1) := by decide +kernel
theorem dX12_chain_68 : decode cX12_chain 68 = .ok (.if_icmp .ge 39, 3) := by decide +kernel
theorem dX12_chain_71 : decode cX12_chain 71 = .ok (.iload_n 3, 1) := by decide +kernel
theorem dX12_chain_72 : decode cX12_chain 72 = .ok (.iload 6, 2) := by decide +kernel
theorem dX12_chain_74 : decode cX12_chain 74 = .ok (.invokestatic 248, 3) := by decide +kernel
theorem dX12_chain_77 : decode cX12_chain 77 = .ok (.ifCond .eq 24, 3) := by decide +kernel
theorem dX12_chain_80 : decode cX12_chain 80 = .ok (.aload_n 0, 1) := by decide +kernel
theorem dX12_chain_81 : decode cX12_chain 81 = .ok (.iload 6, 2) := by decide +kernel
theorem dX12_chain_83 : decode cX12_chain 83 = .ok (.iload 7, 2) := by decide +kernel
theorem dX12_chain_85 : decode cX12_chain 85 = .ok (.invokevirtual 306, 3) := by decide +kernel
theorem dX12_chain_88 : decode cX12_chain 88 = .ok (.iconst 1, 1) := by decide +kernel
theorem dX12_chain_89 : decode cX12_chain 89 = .ok (.if_icmp .gt 12, 3) := by decide +kernel
theorem dX12_chain_92 : decode cX12_chain 92 = .ok (.iload 5, 2) := by decide +kernel
theorem dX12_chain_94 : decode cX12_chain 94 = .ok (.iconst 1, 1) := by decide +kernel
theorem dX12_chain_95 : decode cX12_chain 95 = .ok (.iload 7, 2) := by decide +kernel
theorem dX12_chain_97 : decode cX12_chain 97 = .ok (.ishl, 1) := by decide +kernel
theorem dX12_chain_98 : decode cX12_chain 98 = .ok (.ior, 1) := by decide +kernel
theorem dX12_chain_99 : decode cX12_chain 99 = .ok (.istore 5, 2) := by decide +kernel
theorem dX12_chain_101 : decode cX12_chain 101 = .ok (.iinc 7 1, 3) := by decide +kernel
theorem dX12_chain_104 : decode cX12_chain 104 = .ok (.goto (-44), 3) := by decide +kernel
theorem dX12_chain_107 : decode cX12_chain 107 = .ok (.iinc 6 1, 3) := by decide +kernel
theorem dX12_chain_110 : decode cX12_chain 110 = .ok (.goto (-64), 3) := by decide +kernel
theorem dX12_chain_113 : decode cX12_chain 113 = .ok (.iload 5, 2) := by decide +kernel
theorem dX12_chain_115 : decode cX12_chain 115 = .ok (.istore_n 3, 1) := by decide +kernel
theorem dX12_chain_116 : decode cX12_chain 116 = .ok (.iinc 4 1, 3) := by decide +kernel
theorem dX12_chain_119 : decode cX12_chain 119 = .ok (.goto (-97), 3) := by decide +kernel
theorem dX12_chain_122 : decode cX12_chain 122 = .ok (.iconst (-1), 1) := by decide +kernel
theorem dX12_chain_123 : decode cX12_chain 123 = .ok (.ireturn, 1) := by decide +kernel
theorem dX12_isEcho_0 : decode cX12_isEcho 0 = .ok (.iconst 1, 1) := by decide +kernel
theorem dX12_isEcho_1 : decode cX12_isEcho 1 = .ok (.istore 4, 2) := by decide +kernel
theorem dX12_isEcho_3 : decode cX12_isEcho 3 = .ok (.iconst 0, 1) := by decide +kernel
theorem dX12_isEcho_4 : decode cX12_isEcho 4 = .ok (.istore 5, 2) := by decide +kernel
theorem dX12_isEcho_6 : decode cX12_isEcho 6 = .ok (.iload 5, 2) := by decide +kernel
theorem dX12_isEcho_8 : decode cX12_isEcho 8 = .ok (.iload_n 3, 1) := by decide +kernel
theorem dX12_isEcho_9 : decode cX12_isEcho 9 = .ok (.if_icmp .ge 48, 3) := by decide +kernel
theorem dX12_isEcho_12 : decode cX12_isEcho 12 = .ok (.iload 4, 2) := by decide +kernel
theorem dX12_isEcho_14 : decode cX12_isEcho 14 = .ok (.ifCond .eq 43, 3) := by decide +kernel
theorem dX12_isEcho_17 : decode cX12_isEcho 17 = .ok (.aload_n 0, 1) := by decide +kernel
theorem dX12_isEcho_18 : decode cX12_isEcho 18 = .ok (.getfield 7, 3) := by decide +kernel
theorem dX12_isEcho_21 : decode cX12_isEcho 21 = .ok (.bipush 76, 2) := by decide +kernel
theorem dX12_isEcho_23 : decode cX12_isEcho 23 = .ok (.iload_n 1, 1) := by decide +kernel
theorem dX12_isEcho_24 : decode cX12_isEcho 24 = .ok (.iadd, 1) := by decide +kernel
theorem dX12_isEcho_25 : decode cX12_isEcho 25 = .ok (.iload 5, 2) := by decide +kernel
theorem dX12_isEcho_27 : decode cX12_isEcho 27 = .ok (.iadd, 1) := by decide +kernel
theorem dX12_isEcho_28 : decode cX12_isEcho 28 = .ok (.iaload, 1) := by decide +kernel
theorem dX12_isEcho_29 : decode cX12_isEcho 29 = .ok (.aload_n 0, 1) := by decide +kernel
theorem dX12_isEcho_30 : decode cX12_isEcho 30 = .ok (.getfield 7, 3) := by decide +kernel
theorem dX12_isEcho_33 : decode cX12_isEcho 33 = .ok (.bipush 76, 2) := by decide +kernel
theorem dX12_isEcho_35 : decode cX12_isEcho 35 = .ok (.iload_n 2, 1) := by decide +kernel
theorem dX12_isEcho_36 : decode cX12_isEcho 36 = .ok (.iadd, 1) := by decide +kernel
theorem dX12_isEcho_37 : decode cX12_isEcho 37 = .ok (.iload 5, 2) := by decide +kernel
theorem dX12_isEcho_39 : decode cX12_isEcho 39 = .ok (.iadd, 1) := by decide +kernel
theorem dX12_isEcho_40 : decode cX12_isEcho 40 = .ok (.iaload, 1) := by decide +kernel
theorem dX12_isEcho_41 : decode cX12_isEcho 41 = .ok (.if_icmp .ne 7, 3) := by decide +kernel
theorem dX12_isEcho_44 : decode cX12_isEcho 44 = .ok (.iconst 1, 1) := by decide +kernel
theorem dX12_isEcho_45 : decode cX12_isEcho 45 = .ok (.goto 4, 3) := by decide +kernel
theorem dX12_isEcho_48 : decode cX12_isEcho 48 = .ok (.iconst 0, 1) := by decide +kernel
theorem dX12_isEcho_49 : decode cX12_isEcho 49 = .ok (.istore 4, 2) := by decide +kernel
theorem dX12_isEcho_51 : decode cX12_isEcho 51 = .ok (.iinc 5 1, 3) := by decide +kernel
theorem dX12_isEcho_54 : decode cX12_isEcho 54 = .ok (.goto (-48), 3) := by decide +kernel
theorem dX12_isEcho_57 : decode cX12_isEcho 57 = .ok (.iload 4, 2) := by decide +kernel
theorem dX12_isEcho_59 : decode cX12_isEcho 59 = .ok (.ireturn, 1) := by decide +kernel
theorem dX12_echo_0 : decode cX12_echo 0 = .ok (.aload_n 0, 1) := by decide +kernel
theorem dX12_echo_1 : decode cX12_echo 1 = .ok (.iconst 0, 1) := by decide +kernel
theorem dX12_echo_2 : decode cX12_echo 2 = .ok (.putfield 57, 3) := by decide +kernel
theorem dX12_echo_5 : decode cX12_echo 5 = .ok (.iconst 0, 1) := by decide +kernel
theorem dX12_echo_6 : decode cX12_echo 6 = .ok (.istore_n 1, 1) := by decide +kernel
theorem dX12_echo_7 : decode cX12_echo 7 = .ok (.iconst 0, 1) := by decide +kernel
theorem dX12_echo_8 : decode cX12_echo 8 = .ok (.istore_n 2, 1) := by decide +kernel
theorem dX12_echo_9 : decode cX12_echo 9 = .ok (.iload_n 2, 1) := by decide +kernel
theorem dX12_echo_10 : decode cX12_echo 10 = .ok (.aload_n 0, 1) := by decide +kernel
theorem dX12_echo_11 : decode cX12_echo 11 = .ok (.getfield 7, 3) := by decide +kernel
theorem dX12_echo_14 : decode cX12_echo 14 = .ok (.iconst 5, 1) := by decide +kernel
theorem dX12_echo_15 : decode cX12_echo 15 = .ok (.iaload, 1) := by decide +kernel
theorem dX12_echo_16 : decode cX12_echo 16 = .ok (.if_icmp .ge 79, 3) := by decide +kernel
theorem dX12_echo_19 : decode cX12_echo 19 = .ok (.iload_n 2, 1) := by decide +kernel
theorem dX12_echo_20 : decode cX12_echo 20 = .ok (.iconst 1, 1) := by decide +kernel
theorem dX12_echo_21 : decode cX12_echo 21 = .ok (.iadd, 1) := by decide +kernel
theorem dX12_echo_22 : decode cX12_echo 22 = .ok (.istore_n 3, 1) := by decide +kernel
theorem dX12_echo_23 : decode cX12_echo 23 = .ok (.iload_n 3, 1) := by decide +kernel
theorem dX12_echo_24 : decode cX12_echo 24 = .ok (.aload_n 0, 1) := by decide +kernel
theorem dX12_echo_25 : decode cX12_echo 25 = .ok (.getfield 7, 3) := by decide +kernel
theorem dX12_echo_28 : decode cX12_echo 28 = .ok (.iconst 5, 1) := by decide +kernel
theorem dX12_echo_29 : decode cX12_echo 29 = .ok (.iaload, 1) := by decide +kernel
theorem dX12_echo_30 : decode cX12_echo 30 = .ok (.if_icmp .ge 59, 3) := by decide +kernel
theorem dX12_echo_33 : decode cX12_echo 33 = .ok (.iconst 1, 1) := by decide +kernel
theorem dX12_echo_34 : decode cX12_echo 34 = .ok (.istore 4, 2) := by decide +kernel
theorem dX12_echo_36 : decode cX12_echo 36 = .ok (.iload 4, 2) := by decide +kernel
theorem dX12_echo_38 : decode cX12_echo 38 = .ok (.iload_n 3, 1) := by decide +kernel
theorem dX12_echo_39 : decode cX12_echo 39 = .ok (.iload_n 2, 1) := by decide +kernel
theorem dX12_echo_40 : decode cX12_echo 40 = .ok (.isub, 1) := by decide +kernel
theorem dX12_echo_41 : decode cX12_echo 41 = .ok (.if_icmp .gt 42, 3) := by decide +kernel
theorem dX12_echo_44 : decode cX12_echo 44 = .ok (.iload_n 3, 1) := by decide +kernel
theorem dX12_echo_45 : decode cX12_echo 45 = .ok (.iload 4, 2) := by decide +kernel
theorem dX12_echo_47 : decode cX12_echo 47 = .ok (.iadd, 1) := by decide +kernel
theorem dX12_echo_48 : decode cX12_echo 48 = .ok (.aload_n 0, 1) := by decide +kernel
theorem dX12_echo_49 : decode cX12_echo 49 = .ok (.getfield 7, 3) := by decide +kernel
theorem dX12_echo_52 : decode cX12_echo 52 = .ok (.iconst 5, 1) := by decide +kernel
theorem dX12_echo_53 : decode cX12_echo 53 = .ok (.iaload, 1) := by decide +kernel
theorem dX12_echo_54 : decode cX12_echo 54 = .ok (.if_icmp .gt 29, 3) := by decide +kernel
theorem dX12_echo_57 : decode cX12_echo 57 = .ok (.iload 4, 2) := by decide +kernel
theorem dX12_echo_59 : decode cX12_echo 59 = .ok (.iload_n 1, 1) := by decide +kernel
theorem dX12_echo_60 : decode cX12_echo 60 = .ok (.if_icmp .le 17, 3) := by decide +kernel
theorem dX12_echo_63 : decode cX12_echo 63 = .ok (.aload_n 0, 1) := by decide +kernel
theorem dX12_echo_64 : decode cX12_echo 64 = .ok (.iload_n 2, 1) := by decide +kernel
theorem dX12_echo_65 : decode cX12_echo 65 = .ok (.iload_n 3, 1) := by decide +kernel
theorem dX12_echo_66 : decode cX12_echo 66 = .ok (.iload 4, 2) := by decide +kernel
theorem dX12_echo_68 : decode cX12_echo 68 = .ok (.invokevirtual 387, 3) := by decide +kernel
theorem dX12_echo_71 : decode cX12_echo 71 = .ok (.ifCond .eq 6, 3) := by decide +kernel
theorem dX12_echo_74 : decode cX12_echo 74 = .ok (.iload 4, 2) := by decide +kernel
theorem dX12_echo_76 : decode cX12_echo 76 = .ok (.istore_n 1, 1) := by decide +kernel
theorem dX12_echo_77 : decode cX12_echo 77 = .ok (.iinc 4 1, 3) := by decide +kernel
theorem dX12_echo_80 : decode cX12_echo 80 = .ok (.goto (-44), 3) := by decide +kernel
theorem dX12_echo_83 : decode cX12_echo 83 = .ok (.iinc 3 1, 3) := by decide +kernel
theorem dX12_echo_86 : decode cX12_echo 86 = .ok (.goto (-63), 3) := by decide +kernel
theorem dX12_echo_89 : decode cX12_echo 89 = .ok (.iinc 2 1, 3) := by decide +kernel
theorem dX12_echo_92 : decode cX12_echo 92 = .ok (.goto (-83), 3) := by decide +kernel
theorem dX12_echo_95 : decode cX12_echo 95 = .ok (.iload_n 1, 1) := by decide +kernel
theorem dX12_echo_96 : decode cX12_echo 96 = .ok (.ireturn, 1) := by decide +kernel
theorem dX12_pages_0 : decode cX12_pages 0 = .ok (.aload_n 0, 1) := by decide +kernel
theorem dX12_pages_1 : decode cX12_pages 1 = .ok (.aload_n 0, 1) := by decide +kernel
theorem dX12_pages_2 : decode cX12_pages 2 = .ok (.iload_n 1, 1) := by decide +kernel
theorem dX12_pages_3 : decode cX12_pages 3 = .ok (.invokevirtual 329, 3) := by decide +kernel
theorem dX12_pages_6 : decode cX12_pages 6 = .ok (.ifCond .ne 7, 3) := by decide +kernel
theorem dX12_pages_9 : decode cX12_pages 9 = .ok (.iconst 1, 1) := by decide +kernel
theorem dX12_pages_10 : decode cX12_pages 10 = .ok (.goto 18, 3) := by decide +kernel
theorem dX12_pages_13 : decode cX12_pages 13 = .ok (.iload_n 2, 1) := by decide +kernel
theorem dX12_pages_14 : decode cX12_pages 14 = .ok (.iconst 0, 1) := by decide +kernel
theorem dX12_pages_15 : decode cX12_pages 15 = .ok (.bipush 99, 2) := by decide +kernel
theorem dX12_pages_17 : decode cX12_pages 17 = .ok (.invokestatic 60, 3) := by decide +kernel
theorem dX12_pages_20 : decode cX12_pages 20 = .ok (.ifCond .ne 7, 3) := by decide +kernel
theorem dX12_pages_23 : decode cX12_pages 23 = .ok (.iconst 2, 1) := by decide +kernel
theorem dX12_pages_24 : decode cX12_pages 24 = .ok (.goto 4, 3) := by decide +kernel
theorem dX12_pages_27 : decode cX12_pages 27 = .ok (.iconst 0, 1) := by decide +kernel
theorem dX12_pages_28 : decode cX12_pages 28 = .ok (.putfield 57, 3) := by decide +kernel
theorem dX12_pages_31 : decode cX12_pages 31 = .ok (.aload_n 0, 1) := by decide +kernel
theorem dX12_pages_32 : decode cX12_pages 32 = .ok (.getfield 57, 3) := by decide +kernel
theorem dX12_pages_35 : decode cX12_pages 35 = .ok (.ifCond .le 5, 3) := by decide +kernel
theorem dX12_pages_38 : decode cX12_pages 38 = .ok (.iconst 0, 1) := by decide +kernel
theorem dX12_pages_39 : decode cX12_pages 39 = .ok (.ireturn, 1) := by decide +kernel
theorem dX12_pages_40 : decode cX12_pages 40 = .ok (.iconst 0, 1) := by decide +kernel
theorem dX12_pages_41 : decode cX12_pages 41 = .ok (.istore_n 3, 1) := by decide +kernel
theorem dX12_pages_42 : decode cX12_pages 42 = .ok (.iload_n 3, 1) := by decide +kernel
theorem dX12_pages_43 : decode cX12_pages 43 = .ok (.iconst 5, 1) := by decide +kernel
theorem dX12_pages_44 : decode cX12_pages 44 = .ok (.if_icmp .ge 16, 3) := by decide +kernel
theorem dX12_pages_47 : decode cX12_pages 47 = .ok (.aload_n 0, 1) := by decide +kernel
theorem dX12_pages_48 : decode cX12_pages 48 = .ok (.getfield 44, 3) := by decide +kernel
theorem dX12_pages_51 : decode cX12_pages 51 = .ok (.iload_n 3, 1) := by decide +kernel
theorem dX12_pages_52 : decode cX12_pages 52 = .ok (.iconst 0, 1) := by decide +kernel
theorem dX12_pages_53 : decode cX12_pages 53 = .ok (.iastore, 1) := by decide +kernel
theorem dX12_pages_54 : decode cX12_pages 54 = .ok (.iinc 3 1, 3) := by decide +kernel
theorem dX12_pages_57 : decode cX12_pages 57 = .ok (.goto (-15), 3) := by decide +kernel
theorem dX12_pages_60 : decode cX12_pages 60 = .ok (.iconst 0, 1) := by decide +kernel
theorem dX12_pages_61 : decode cX12_pages 61 = .ok (.istore_n 3, 1) := by decide +kernel
theorem dX12_pages_62 : decode cX12_pages 62 = .ok (.iload_n 3, 1) := by decide +kernel
theorem dX12_pages_63 : decode cX12_pages 63 = .ok (.iload_n 2, 1) := by decide +kernel
theorem dX12_pages_64 : decode cX12_pages 64 = .ok (.if_icmp .ge 84, 3) := by decide +kernel
theorem dX12_pages_67 : decode cX12_pages 67 = .ok (.iconst 0, 1) := by decide +kernel
theorem dX12_pages_68 : decode cX12_pages 68 = .ok (.istore 4, 2) := by decide +kernel
theorem dX12_pages_70 : decode cX12_pages 70 = .ok (.iconst 1, 1) := by decide +kernel
theorem dX12_pages_71 : decode cX12_pages 71 = .ok (.istore 5, 2) := by decide +kernel
theorem dX12_pages_73 : decode cX12_pages 73 = .ok (.iload 5, 2) := by decide +kernel
theorem dX12_pages_75 : decode cX12_pages 75 = .ok (.aload_n 0, 1) := by decide +kernel
theorem dX12_pages_76 : decode cX12_pages 76 = .ok (.getfield 7, 3) := by decide +kernel
theorem dX12_pages_79 : decode cX12_pages 79 = .ok (.iconst 4, 1) := by decide +kernel
theorem dX12_pages_80 : decode cX12_pages 80 = .ok (.iaload, 1) := by decide +kernel
theorem dX12_pages_81 : decode cX12_pages 81 = .ok (.if_icmp .ge 50, 3) := by decide +kernel
theorem dX12_pages_84 : decode cX12_pages 84 = .ok (.aload_n 0, 1) := by decide +kernel
theorem dX12_pages_85 : decode cX12_pages 85 = .ok (.iload 5, 2) := by decide +kernel
theorem dX12_pages_87 : decode cX12_pages 87 = .ok (.iconst 1, 1) := by decide +kernel
theorem dX12_pages_88 : decode cX12_pages 88 = .ok (.invokevirtual 263, 3) := by decide +kernel
theorem dX12_pages_91 : decode cX12_pages 91 = .ok (.aload_n 0, 1) := by decide +kernel
theorem dX12_pages_92 : decode cX12_pages 92 = .ok (.getfield 44, 3) := by decide +kernel
theorem dX12_pages_95 : decode cX12_pages 95 = .ok (.iload 5, 2) := by decide +kernel
theorem dX12_pages_97 : decode cX12_pages 97 = .ok (.iaload, 1) := by decide +kernel
theorem dX12_pages_98 : decode cX12_pages 98 = .ok (.iconst 1, 1) := by decide +kernel
theorem dX12_pages_99 : decode cX12_pages 99 = .ok (.iadd, 1) := by decide +kernel
theorem dX12_pages_100 : decode cX12_pages 100 = .ok (.idiv, 1) := by decide +kernel
theorem dX12_pages_101 : decode cX12_pages 101 = .ok (.aload_n 0, 1) := by decide +kernel
theorem dX12_pages_102 : decode cX12_pages 102 = .ok (.iload 4, 2) := by decide +kernel
theorem dX12_pages_104 : decode cX12_pages 104 = .ok (.iconst 1, 1) := by decide +kernel
theorem dX12_pages_105 : decode cX12_pages 105 = .ok (.invokevirtual 263, 3) := by decide +kernel
theorem dX12_pages_108 : decode cX12_pages 108 = .ok (.aload_n 0, 1) := by decide +kernel
theorem dX12_pages_109 : decode cX12_pages 109 = .ok (.getfield 44, 3) := by decide +kernel
theorem dX12_pages_112 : decode cX12_pages 112 = .ok (.iload 4, 2) := by decide +kernel
theorem dX12_pages_114 : decode cX12_pages 114 = .ok (.iaload, 1) := by decide +kernel
theorem dX12_pages_115 : decode cX12_pages 115 = .ok (.iconst 1, 1) := by decide +kernel
theorem dX12_pages_116 : decode cX12_pages 116 = .ok (.iadd, 1) := by decide +kernel
theorem dX12_pages_117 : decode cX12_pages 117 = .ok (.idiv, 1) := by decide +kernel
theorem dX12_pages_118 : decode cX12_pages 118 = .ok (.if_icmp .le 7, 3) := by decide +kernel
theorem dX12_pages_121 : decode cX12_pages 121 = .ok (.iload 5, 2) := by decide +kernel
theorem dX12_pages_123 : decode cX12_pages 123 = .ok (.istore 4, 2) := by decide +kernel
theorem dX12_pages_125 : decode cX12_pages 125 = .ok (.iinc 5 1, 3) := by decide +kernel
theorem dX12_pages_128 : decode cX12_pages 128 = .ok (.goto (-55), 3) := by decide +kernel
theorem dX12_pages_131 : decode cX12_pages 131 = .ok (.aload_n 0, 1) := by decide +kernel
theorem dX12_pages_132 : decode cX12_pages 132 = .ok (.getfield 44, 3) := by decide +kernel
theorem dX12_pages_135 : decode cX12_pages 135 = .ok (.iload 4, 2) := by decide +kernel
theorem dX12_pages_137 : decode cX12_pages 137 = .ok (.dup2, 1) := by decide +kernel
theorem dX12_pages_138 : decode cX12_pages 138 = .ok (.iaload, 1) := by decide +kernel
theorem dX12_pages_139 : decode cX12_pages 139 = .ok (.iconst 1, 1) := by decide +kernel
theorem dX12_pages_140 : decode cX12_pages 140 = .ok (.iadd, 1) := by decide +kernel
theorem dX12_pages_141 : decode cX12_pages 141 = .ok (.iastore, 1) := by decide +kernel
theorem dX12_pages_142 : decode cX12_pages 142 = .ok (.iinc 3 1, 3) := by decide +kernel
theorem dX12_pages_145 : decode cX12_pages 145 = .ok (.goto (-83), 3) := by decide +kernel
theorem dX12_pages_148 : decode cX12_pages 148 = .ok (.aload_n 0, 1) := by decide +kernel
theorem dX12_pages_149 : decode cX12_pages 149 = .ok (.getfield 44, 3) := by decide +kernel
theorem dX12_pages_152 : decode cX12_pages 152 = .ok (.iload_n 1, 1) := by decide +kernel
theorem dX12_pages_153 : decode cX12_pages 153 = .ok (.iaload, 1) := by decide +kernel
theorem dX12_pages_154 : decode cX12_pages 154 = .ok (.ireturn, 1) := by decide +kernel
theorem dX12_lowest_0 : decode cX12_lowest 0 = .ok (.iconst 0, 1) := by decide +kernel
theorem dX12_lowest_1 : decode cX12_lowest 1 = .ok (.istore_n 1, 1) := by decide +kernel
theorem dX12_lowest_2 : decode cX12_lowest 2 = .ok (.iload_n 0, 1) := by decide +kernel
theorem dX12_lowest_3 : decode cX12_lowest 3 = .ok (.iload_n 1, 1) := by decide +kernel
theorem dX12_lowest_4 : decode cX12_lowest 4 = .ok (.invokestatic 248, 3) := by decide +kernel
theorem dX12_lowest_7 : decode cX12_lowest 7 = .ok (.ifCond .ne 9, 3) := by decide +kernel
theorem dX12_lowest_10 : decode cX12_lowest 10 = .ok (.iinc 1 1, 3) := by decide +kernel
theorem dX12_lowest_13 : decode cX12_lowest 13 = .ok (.goto (-11), 3) := by decide +kernel
theorem dX12_lowest_16 : decode cX12_lowest 16 = .ok (.iload_n 1, 1) := by decide +kernel
theorem dX12_lowest_17 : decode cX12_lowest 17 = .ok (.ireturn, 1) := by decide +kernel
theorem dX12_apart_0 : decode cX12_apart 0 = .ok (.aload_n 0, 1) := by decide +kernel
theorem dX12_apart_1 : decode cX12_apart 1 = .ok (.iload_n 1, 1) := by decide +kernel
theorem dX12_apart_2 : decode cX12_apart 2 = .ok (.iconst 0, 1) := by decide +kernel
theorem dX12_apart_3 : decode cX12_apart 3 = .ok (.invokevirtual 263, 3) := by decide +kernel
theorem dX12_apart_6 : decode cX12_apart 6 = .ok (.aload_n 0, 1) := by decide +kernel
theorem dX12_apart_7 : decode cX12_apart 7 = .ok (.iload_n 2, 1) := by decide +kernel
theorem dX12_apart_8 : decode cX12_apart 8 = .ok (.iconst 0, 1) := by decide +kernel
theorem dX12_apart_9 : decode cX12_apart 9 = .ok (.invokevirtual 263, 3) := by decide +kernel
theorem dX12_apart_12 : decode cX12_apart 12 = .ok (.ixor, 1) := by decide +kernel
theorem dX12_apart_13 : decode cX12_apart 13 = .ok (.invokestatic 366, 3) := by decide +kernel
theorem dX12_apart_16 : decode cX12_apart 16 = .ok (.ireturn, 1) := by decide +kernel
theorem dX12_allBest_0 : decode cX12_allBest 0 = .ok (.aload_n 0, 1) := by decide +kernel
theorem dX12_allBest_1 : decode cX12_allBest 1 = .ok (.getfield 41, 3) := by decide +kernel
theorem dX12_allBest_4 : decode cX12_allBest 4 = .ok (.iconst 0, 1) := by decide +kernel
theorem dX12_allBest_5 : decode cX12_allBest 5 = .ok (.iconst 0, 1) := by decide +kernel
theorem dX12_allBest_6 : decode cX12_allBest 6 = .ok (.iastore, 1) := by decide +kernel
theorem dX12_allBest_7 : decode cX12_allBest 7 = .ok (.iconst 1, 1) := by decide +kernel
theorem dX12_allBest_8 : decode cX12_allBest 8 = .ok (.istore_n 1, 1) := by decide +kernel
theorem dX12_allBest_9 : decode cX12_allBest 9 = .ok (.iload_n 1, 1) := by decide +kernel
theorem dX12_allBest_10 : decode cX12_allBest 10 = .ok (.iconst 1, 1) := by decide +kernel
theorem dX12_allBest_11 : decode cX12_allBest 11 = .ok (.aload_n 0, 1) := by decide +kernel
theorem dX12_allBest_12 : decode cX12_allBest 12 = .ok (.getfield 7, 3) := by decide +kernel
theorem dX12_allBest_15 : decode cX12_allBest 15 = .ok (.iconst 4, 1) := by decide +kernel
theorem dX12_allBest_16 : decode cX12_allBest 16 = .ok (.iaload, 1) := by decide +kernel
theorem dX12_allBest_17 : decode cX12_allBest 17 = .ok (.ishl, 1) := by decide +kernel
theorem dX12_allBest_18 : decode cX12_allBest 18 = .ok (.if_icmp .ge 101, 3) := by decide +kernel
theorem dX12_allBest_21 : decode cX12_allBest 21 = .ok (.iload_n 1, 1) := by decide +kernel
theorem dX12_allBest_22 : decode cX12_allBest 22 = .ok (.invokestatic 390, 3) := by decide +kernel
theorem dX12_allBest_25 : decode cX12_allBest 25 = .ok (.istore_n 2, 1) := by decide +kernel
theorem dX12_allBest_26 : decode cX12_allBest 26 = .ok (.iload_n 1, 1) := by decide +kernel
theorem dX12_allBest_27 : decode cX12_allBest 27 = .ok (.iconst 1, 1) := by decide +kernel
theorem dX12_allBest_28 : decode cX12_allBest 28 = .ok (.iload_n 2, 1) := by decide +kernel
theorem dX12_allBest_29 : decode cX12_allBest 29 = .ok (.ishl, 1) := by decide +kernel
theorem dX12_allBest_30 : decode cX12_allBest 30 = .ok (.iconst (-1), 1) := by decide +kernel
theorem dX12_allBest_31 : decode cX12_allBest 31 = .ok (.ixor, 1) := by decide +kernel
theorem dX12_allBest_32 : decode cX12_allBest 32 = .ok (.iand, 1) := by decide +kernel
theorem dX12_allBest_33 : decode cX12_allBest 33 = .ok (.istore_n 3, 1) := by decide +kernel
theorem dX12_allBest_34 : decode cX12_allBest 34 = .ok (.aload_n 0, 1) := by decide +kernel
theorem dX12_allBest_35 : decode cX12_allBest 35 = .ok (.getfield 41, 3) := by decide +kernel
theorem dX12_allBest_38 : decode cX12_allBest 38 = .ok (.iload_n 1, 1) := by decide +kernel
theorem dX12_allBest_39 : decode cX12_allBest 39 = .ok (.aload_n 0, 1) := by decide +kernel
theorem dX12_allBest_40 : decode cX12_allBest 40 = .ok (.getfield 41, 3) := by decide +kernel
theorem dX12_allBest_43 : decode cX12_allBest 43 = .ok (.iload_n 3, 1) := by decide +kernel
theorem dX12_allBest_44 : decode cX12_allBest 44 = .ok (.iaload, 1) := by decide +kernel
theorem dX12_allBest_45 : decode cX12_allBest 45 = .ok (.iastore, 1) := by decide +kernel
theorem dX12_allBest_46 : decode cX12_allBest 46 = .ok (.iload_n 2, 1) := by decide +kernel
theorem dX12_allBest_47 : decode cX12_allBest 47 = .ok (.iconst 1, 1) := by decide +kernel
theorem dX12_allBest_48 : decode cX12_allBest 48 = .ok (.iadd, 1) := by decide +kernel
theorem dX12_allBest_49 : decode cX12_allBest 49 = .ok (.istore 4, 2) := by decide +kernel
theorem dX12_allBest_51 : decode cX12_allBest 51 = .ok (.iload 4, 2) := by decide +kernel
theorem dX12_allBest_53 : decode cX12_allBest 53 = .ok (.aload_n 0, 1) := by decide +kernel
theorem dX12_allBest_54 : decode cX12_allBest 54 = .ok (.getfield 7, 3) := by decide +kernel
theorem dX12_allBest_57 : decode cX12_allBest 57 = .ok (.iconst 4, 1) := by decide +kernel
theorem dX12_allBest_58 : decode cX12_allBest 58 = .ok (.iaload, 1) := by decide +kernel
theorem dX12_allBest_59 : decode cX12_allBest 59 = .ok (.if_icmp .ge 54, 3) := by decide +kernel
theorem dX12_allBest_62 : decode cX12_allBest 62 = .ok (.iload_n 3, 1) := by decide +kernel
theorem dX12_allBest_63 : decode cX12_allBest 63 = .ok (.iload 4, 2) := by decide +kernel
theorem dX12_allBest_65 : decode cX12_allBest 65 = .ok (.invokestatic 248, 3) := by decide +kernel
theorem dX12_allBest_68 : decode cX12_allBest 68 = .ok (.ifCond .eq 39, 3) := by decide +kernel
theorem dX12_allBest_71 : decode cX12_allBest 71 = .ok (.aload_n 0, 1) := by decide +kernel
theorem dX12_allBest_72 : decode cX12_allBest 72 = .ok (.getfield 41, 3) := by decide +kernel
theorem dX12_allBest_75 : decode cX12_allBest 75 = .ok (.iload_n 1, 1) := by decide +kernel
theorem dX12_allBest_76 : decode cX12_allBest 76 = .ok (.aload_n 0, 1) := by decide +kernel
theorem dX12_allBest_77 : decode cX12_allBest 77 = .ok (.getfield 41, 3) := by decide +kernel
theorem dX12_allBest_80 : decode cX12_allBest 80 = .ok (.iload_n 1, 1) := by decide +kernel
theorem dX12_allBest_81 : decode cX12_allBest 81 = .ok (.iaload, 1) := by decide +kernel
theorem dX12_allBest_82 : decode cX12_allBest 82 = .ok (.aload_n 0, 1) := by decide +kernel
theorem dX12_allBest_83 : decode cX12_allBest 83 = .ok (.iload_n 2, 1) := by decide +kernel
theorem dX12_allBest_84 : decode cX12_allBest 84 = .ok (.iload 4, 2) := by decide +kernel
theorem dX12_allBest_86 : decode cX12_allBest 86 = .ok (.invokevirtual 393, 3) := by decide +kernel
theorem dX12_allBest_89 : decode cX12_allBest 89 = .ok (.aload_n 0, 1) := by decide +kernel
theorem dX12_allBest_90 : decode cX12_allBest 90 = .ok (.getfield 41, 3) := by decide +kernel
theorem dX12_allBest_93 : decode cX12_allBest 93 = .ok (.iload_n 3, 1) := by decide +kernel
theorem dX12_allBest_94 : decode cX12_allBest 94 = .ok (.iconst 1, 1) := by decide +kernel
theorem dX12_allBest_95 : decode cX12_allBest 95 = .ok (.iload 4, 2) := by decide +kernel
theorem dX12_allBest_97 : decode cX12_allBest 97 = .ok (.ishl, 1) := by decide +kernel
theorem dX12_allBest_98 : decode cX12_allBest 98 = .ok (.iconst (-1), 1) := by decide +kernel
theorem dX12_allBest_99 : decode cX12_allBest 99 = .ok (.ixor, 1) := by decide +kernel
theorem dX12_allBest_100 : decode cX12_allBest 100 = .ok (.iand, 1) := by decide +kernel
theorem dX12_allBest_101 : decode cX12_allBest 101 = .ok (.iaload, 1) := by decide +kernel
theorem dX12_allBest_102 : decode cX12_allBest 102 = .ok (.iadd, 1) := by decide +kernel
theorem dX12_allBest_103 : decode cX12_allBest 103 = .ok (.invokestatic 273, 3) := by decide +kernel
theorem dX12_allBest_106 : decode cX12_allBest 106 = .ok (.iastore, 1) := by decide +kernel
theorem dX12_allBest_107 : decode cX12_allBest 107 = .ok (.iinc 4 1, 3) := by decide +kernel
theorem dX12_allBest_110 : decode cX12_allBest 110 = .ok (.goto (-59), 3) := by decide +kernel
theorem dX12_allBest_113 : decode cX12_allBest 113 = .ok (.iinc 1 1, 3) := by decide +kernel
theorem dX12_allBest_116 : decode cX12_allBest 116 = .ok (.goto (-107), 3) := by decide +kernel
theorem dX12_allBest_119 : decode cX12_allBest 119 = .ok (.return_, 1) := by decide +kernel
theorem dX12_pairs_0 : decode cX12_pairs 0 = .ok (.aload_n 0, 1) := by decide +kernel
theorem dX12_pairs_1 : decode cX12_pairs 1 = .ok (.iload_n 1, 1) := by decide +kernel
theorem dX12_pairs_2 : decode cX12_pairs 2 = .ok (.iconst (-1), 1) := by decide +kernel
theorem dX12_pairs_3 : decode cX12_pairs 3 = .ok (.if_icmp .eq 15, 3) := by decide +kernel
theorem dX12_pairs_6 : decode cX12_pairs 6 = .ok (.aload_n 0, 1) := by decide +kernel
theorem dX12_pairs_7 : decode cX12_pairs 7 = .ok (.iload_n 1, 1) := by decide +kernel
theorem dX12_pairs_8 : decode cX12_pairs 8 = .ok (.invokevirtual 329, 3) := by decide +kernel
theorem dX12_pairs_11 : decode cX12_pairs 11 = .ok (.ifCond .ne 7, 3) := by decide +kernel
theorem dX12_pairs_14 : decode cX12_pairs 14 = .ok (.iconst 1, 1) := by decide +kernel
theorem dX12_pairs_15 : decode cX12_pairs 15 = .ok (.goto 4, 3) := by decide +kernel
theorem dX12_pairs_18 : decode cX12_pairs 18 = .ok (.iconst 0, 1) := by decide +kernel
theorem dX12_pairs_19 : decode cX12_pairs 19 = .ok (.putfield 57, 3) := by decide +kernel
theorem dX12_pairs_22 : decode cX12_pairs 22 = .ok (.aload_n 0, 1) := by decide +kernel
theorem dX12_pairs_23 : decode cX12_pairs 23 = .ok (.getfield 57, 3) := by decide +kernel
theorem dX12_pairs_26 : decode cX12_pairs 26 = .ok (.ifCond .le 5, 3) := by decide +kernel
theorem dX12_pairs_29 : decode cX12_pairs 29 = .ok (.iconst 0, 1) := by decide +kernel
theorem dX12_pairs_30 : decode cX12_pairs 30 = .ok (.ireturn, 1) := by decide +kernel
theorem dX12_pairs_31 : decode cX12_pairs 31 = .ok (.aload_n 0, 1) := by decide +kernel
theorem dX12_pairs_32 : decode cX12_pairs 32 = .ok (.invokevirtual 396, 3) := by decide +kernel
theorem dX12_pairs_35 : decode cX12_pairs 35 = .ok (.iconst 1, 1) := by decide +kernel
theorem dX12_pairs_36 : decode cX12_pairs 36 = .ok (.aload_n 0, 1) := by decide +kernel
theorem dX12_pairs_37 : decode cX12_pairs 37 = .ok (.getfield 7, 3) := by decide +kernel
theorem dX12_pairs_40 : decode cX12_pairs 40 = .ok (.iconst 4, 1) := by decide +kernel
theorem dX12_pairs_41 : decode cX12_pairs 41 = .ok (.iaload, 1) := by decide +kernel
theorem dX12_pairs_42 : decode cX12_pairs 42 = .ok (.ishl, 1) := by decide +kernel
theorem dX12_pairs_43 : decode cX12_pairs 43 = .ok (.iconst 1, 1) := by decide +kernel
theorem dX12_pairs_44 : decode cX12_pairs 44 = .ok (.isub, 1) := by decide +kernel
theorem dX12_pairs_45 : decode cX12_pairs 45 = .ok (.istore_n 2, 1) := by decide +kernel
theorem dX12_pairs_46 : decode cX12_pairs 46 = .ok (.iload_n 1, 1) := by decide +kernel
theorem dX12_pairs_47 : decode cX12_pairs 47 = .ok (.iconst (-1), 1) := by decide +kernel
theorem dX12_pairs_48 : decode cX12_pairs 48 = .ok (.if_icmp .ne 10, 3) := by decide +kernel
theorem dX12_pairs_51 : decode cX12_pairs 51 = .ok (.aload_n 0, 1) := by decide +kernel
theorem dX12_pairs_52 : decode cX12_pairs 52 = .ok (.getfield 41, 3) := by decide +kernel
theorem dX12_pairs_55 : decode cX12_pairs 55 = .ok (.iload_n 2, 1) := by decide +kernel
theorem dX12_pairs_56 : decode cX12_pairs 56 = .ok (.iaload, 1) := by decide +kernel
theorem dX12_pairs_57 : decode cX12_pairs 57 = .ok (.ireturn, 1) := by decide +kernel
theorem dX12_pairs_58 : decode cX12_pairs 58 = .ok (.iload_n 2, 1) := by decide +kernel
theorem dX12_pairs_59 : decode cX12_pairs 59 = .ok (.ifCond .eq 143, 3) := by decide +kernel
theorem dX12_pairs_62 : decode cX12_pairs 62 = .ok (.iload_n 2, 1) := by decide +kernel
theorem dX12_pairs_63 : decode cX12_pairs 63 = .ok (.invokestatic 390, 3) := by decide +kernel
theorem dX12_pairs_66 : decode cX12_pairs 66 = .ok (.istore_n 3, 1) := by decide +kernel
theorem dX12_pairs_67 : decode cX12_pairs 67 = .ok (.iload_n 2, 1) := by decide +kernel
theorem dX12_pairs_68 : decode cX12_pairs 68 = .ok (.iconst 1, 1) := by decide +kernel
theorem dX12_pairs_69 : decode cX12_pairs 69 = .ok (.iload_n 3, 1) := by decide +kernel
theorem dX12_pairs_70 : decode cX12_pairs 70 = .ok (.ishl, 1) := by decide +kernel
theorem dX12_pairs_71 : decode cX12_pairs 71 = .ok (.iconst (-1), 1) := by decide +kernel
theorem dX12_pairs_72 : decode cX12_pairs 72 = .ok (.ixor, 1) := by decide +kernel
theorem dX12_pairs_73 : decode cX12_pairs 73 = .ok (.iand, 1) := by decide +kernel
theorem dX12_pairs_74 : decode cX12_pairs 74 = .ok (.istore 4, 2) := by decide +kernel
theorem dX12_pairs_76 : decode cX12_pairs 76 = .ok (.iconst (-1), 1) := by decide +kernel
theorem dX12_pairs_77 : decode cX12_pairs 77 = .ok (.istore 5, 2) := by decide +kernel
theorem dX12_pairs_79 : decode cX12_pairs 79 = .ok (.aload_n 0, 1) := by decide +kernel
theorem dX12_pairs_80 : decode cX12_pairs 80 = .ok (.getfield 7, 3) := by decide +kernel
theorem dX12_pairs_83 : decode cX12_pairs 83 = .ok (.iconst 4, 1) := by decide +kernel
theorem dX12_pairs_84 : decode cX12_pairs 84 = .ok (.iaload, 1) := by decide +kernel
theorem dX12_pairs_85 : decode cX12_pairs 85 = .ok (.iconst 1, 1) := by decide +kernel
theorem dX12_pairs_86 : decode cX12_pairs 86 = .ok (.isub, 1) := by decide +kernel
theorem dX12_pairs_87 : decode cX12_pairs 87 = .ok (.istore 6, 2) := by decide +kernel
theorem dX12_pairs_89 : decode cX12_pairs 89 = .ok (.iload 6, 2) := by decide +kernel
theorem dX12_pairs_91 : decode cX12_pairs 91 = .ok (.iload_n 3, 1) := by decide +kernel
theorem dX12_pairs_92 : decode cX12_pairs 92 = .ok (.if_icmp .le 70, 3) := by decide +kernel
theorem dX12_pairs_95 : decode cX12_pairs 95 = .ok (.aload_n 0, 1) := by decide +kernel
theorem dX12_pairs_96 : decode cX12_pairs 96 = .ok (.getfield 41, 3) := by decide +kernel
theorem dX12_pairs_99 : decode cX12_pairs 99 = .ok (.iload 4, 2) := by decide +kernel
theorem dX12_pairs_101 : decode cX12_pairs 101 = .ok (.iaload, 1) := by decide +kernel
theorem dX12_pairs_102 : decode cX12_pairs 102 = .ok (.aload_n 0, 1) := by decide +kernel
theorem dX12_pairs_103 : decode cX12_pairs 103 = .ok (.getfield 41, 3) := by decide +kernel
theorem dX12_pairs_106 : decode cX12_pairs 106 = .ok (.iload_n 2, 1) := by decide +kernel
theorem dX12_pairs_107 : decode cX12_pairs 107 = .ok (.iaload, 1) := by decide +kernel
theorem dX12_pairs_108 : decode cX12_pairs 108 = .ok (.if_icmp .eq 54, 3) := by decide +kernel
theorem dX12_pairs_111 : decode cX12_pairs 111 = .ok (.iload 4, 2) := by decide +kernel
theorem dX12_pairs_113 : decode cX12_pairs 113 = .ok (.iload 6, 2) := by decide +kernel
theorem dX12_pairs_115 : decode cX12_pairs 115 = .ok (.invokestatic 248, 3) := by decide +kernel
theorem dX12_pairs_118 : decode cX12_pairs 118 = .ok (.ifCond .eq 38, 3) := by decide +kernel
theorem dX12_pairs_121 : decode cX12_pairs 121 = .ok (.aload_n 0, 1) := by decide +kernel
theorem dX12_pairs_122 : decode cX12_pairs 122 = .ok (.iload_n 3, 1) := by decide +kernel
theorem dX12_pairs_123 : decode cX12_pairs 123 = .ok (.iload 6, 2) := by decide +kernel
theorem dX12_pairs_125 : decode cX12_pairs 125 = .ok (.invokevirtual 393, 3) := by decide +kernel
theorem dX12_pairs_128 : decode cX12_pairs 128 = .ok (.aload_n 0, 1) := by decide +kernel
theorem dX12_pairs_129 : decode cX12_pairs 129 = .ok (.getfield 41, 3) := by decide +kernel
theorem dX12_pairs_132 : decode cX12_pairs 132 = .ok (.iload 4, 2) := by decide +kernel
theorem dX12_pairs_134 : decode cX12_pairs 134 = .ok (.iconst 1, 1) := by decide +kernel
theorem dX12_pairs_135 : decode cX12_pairs 135 = .ok (.iload 6, 2) := by decide +kernel
theorem dX12_pairs_137 : decode cX12_pairs 137 = .ok (.ishl, 1) := by decide +kernel
theorem dX12_pairs_138 : decode cX12_pairs 138 = .ok (.iconst (-1), 1) := by decide +kernel
theorem dX12_pairs_139 : decode cX12_pairs 139 = .ok (.ixor, 1) := by decide +kernel
theorem dX12_pairs_140 : decode cX12_pairs 140 = .ok (.iand, 1) := by decide +kernel
theorem dX12_pairs_141 : decode cX12_pairs 141 = .ok (.iaload, 1) := by decide +kernel
theorem dX12_pairs_142 : decode cX12_pairs 142 = .ok (.iadd, 1) := by decide +kernel
theorem dX12_pairs_143 : decode cX12_pairs 143 = .ok (.aload_n 0, 1) := by decide +kernel
theorem dX12_pairs_144 : decode cX12_pairs 144 = .ok (.getfield 41, 3) := by decide +kernel
theorem dX12_pairs_147 : decode cX12_pairs 147 = .ok (.iload_n 2, 1) := by decide +kernel
theorem dX12_pairs_148 : decode cX12_pairs 148 = .ok (.iaload, 1) := by decide +kernel
theorem dX12_pairs_149 : decode cX12_pairs 149 = .ok (.if_icmp .ne 7, 3) := by decide +kernel
theorem dX12_pairs_152 : decode cX12_pairs 152 = .ok (.iload 6, 2) := by decide +kernel
theorem dX12_pairs_154 : decode cX12_pairs 154 = .ok (.istore 5, 2) := by decide +kernel
theorem dX12_pairs_156 : decode cX12_pairs 156 = .ok (.iinc 6 (-1), 3) := by decide +kernel
theorem dX12_pairs_159 : decode cX12_pairs 159 = .ok (.goto (-70), 3) := by decide +kernel
theorem dX12_pairs_162 : decode cX12_pairs 162 = .ok (.iload_n 3, 1) := by decide +kernel
theorem dX12_pairs_163 : decode cX12_pairs 163 = .ok (.iload_n 1, 1) := by decide +kernel
theorem dX12_pairs_164 : decode cX12_pairs 164 = .ok (.if_icmp .ne 6, 3) := by decide +kernel
theorem dX12_pairs_167 : decode cX12_pairs 167 = .ok (.iload 5, 2) := by decide +kernel
theorem dX12_pairs_169 : decode cX12_pairs 169 = .ok (.ireturn, 1) := by decide +kernel
theorem dX12_pairs_170 : decode cX12_pairs 170 = .ok (.iload 5, 2) := by decide +kernel
theorem dX12_pairs_172 : decode cX12_pairs 172 = .ok (.iload_n 1, 1) := by decide +kernel
theorem dX12_pairs_173 : decode cX12_pairs 173 = .ok (.if_icmp .ne 5, 3) := by decide +kernel
theorem dX12_pairs_176 : decode cX12_pairs 176 = .ok (.iload_n 3, 1) := by decide +kernel
theorem dX12_pairs_177 : decode cX12_pairs 177 = .ok (.ireturn, 1) := by decide +kernel
theorem dX12_pairs_178 : decode cX12_pairs 178 = .ok (.iload 5, 2) := by decide +kernel
theorem dX12_pairs_180 : decode cX12_pairs 180 = .ok (.iconst (-1), 1) := by decide +kernel
theorem dX12_pairs_181 : decode cX12_pairs 181 = .ok (.if_icmp .ne 8, 3) := by decide +kernel
theorem dX12_pairs_184 : decode cX12_pairs 184 = .ok (.iload 4, 2) := by decide +kernel
theorem dX12_pairs_186 : decode cX12_pairs 186 = .ok (.goto 12, 3) := by decide +kernel
theorem dX12_pairs_189 : decode cX12_pairs 189 = .ok (.iload 4, 2) := by decide +kernel
theorem dX12_pairs_191 : decode cX12_pairs 191 = .ok (.iconst 1, 1) := by decide +kernel
theorem dX12_pairs_192 : decode cX12_pairs 192 = .ok (.iload 5, 2) := by decide +kernel
theorem dX12_pairs_194 : decode cX12_pairs 194 = .ok (.ishl, 1) := by decide +kernel
theorem dX12_pairs_195 : decode cX12_pairs 195 = .ok (.iconst (-1), 1) := by decide +kernel
theorem dX12_pairs_196 : decode cX12_pairs 196 = .ok (.ixor, 1) := by decide +kernel
theorem dX12_pairs_197 : decode cX12_pairs 197 = .ok (.iand, 1) := by decide +kernel
theorem dX12_pairs_198 : decode cX12_pairs 198 = .ok (.istore_n 2, 1) := by decide +kernel
theorem dX12_pairs_199 : decode cX12_pairs 199 = .ok (.goto (-141), 3) := by decide +kernel
theorem dX12_pairs_202 : decode cX12_pairs 202 = .ok (.iconst (-1), 1) := by decide +kernel
theorem dX12_pairs_203 : decode cX12_pairs 203 = .ok (.ireturn, 1) := by decide +kernel
theorem dX12_itHas_0 : decode cX12_itHas 0 = .ok (.iload_n 2, 1) := by decide +kernel
theorem dX12_itHas_1 : decode cX12_itHas 1 = .ok (.ifCond .ne 27, 3) := by decide +kernel
theorem dX12_itHas_4 : decode cX12_itHas 4 = .ok (.iload_n 3, 1) := by decide +kernel
theorem dX12_itHas_5 : decode cX12_itHas 5 = .ok (.ifCond .ne 12, 3) := by decide +kernel
theorem dX12_itHas_8 : decode cX12_itHas 8 = .ok (.aload_n 0, 1) := by decide +kernel
theorem dX12_itHas_9 : decode cX12_itHas 9 = .ok (.iload_n 1, 1) := by decide +kernel
theorem dX12_itHas_10 : decode cX12_itHas 10 = .ok (.iconst 2, 1) := by decide +kernel
theorem dX12_itHas_11 : decode cX12_itHas 11 = .ok (.invokevirtual 263, 3) := by decide +kernel
theorem dX12_itHas_14 : decode cX12_itHas 14 = .ok (.goto 13, 3) := by decide +kernel
theorem dX12_itHas_17 : decode cX12_itHas 17 = .ok (.aload_n 0, 1) := by decide +kernel
theorem dX12_itHas_18 : decode cX12_itHas 18 = .ok (.iload_n 1, 1) := by decide +kernel
theorem dX12_itHas_19 : decode cX12_itHas 19 = .ok (.iconst 3, 1) := by decide +kernel
theorem dX12_itHas_20 : decode cX12_itHas 20 = .ok (.invokevirtual 263, 3) := by decide +kernel
theorem dX12_itHas_23 : decode cX12_itHas 23 = .ok (.bipush 10, 2) := by decide +kernel
theorem dX12_itHas_25 : decode cX12_itHas 25 = .ok (.idiv, 1) := by decide +kernel
theorem dX12_itHas_26 : decode cX12_itHas 26 = .ok (.ineg, 1) := by decide +kernel
theorem dX12_itHas_27 : decode cX12_itHas 27 = .ok (.ireturn, 1) := by decide +kernel
theorem dX12_itHas_28 : decode cX12_itHas 28 = .ok (.iload_n 3, 1) := by decide +kernel
theorem dX12_itHas_29 : decode cX12_itHas 29 = .ok (.ifCond .ne 7, 3) := by decide +kernel
theorem dX12_itHas_32 : decode cX12_itHas 32 = .ok (.iconst 1, 1) := by decide +kernel
theorem dX12_itHas_33 : decode cX12_itHas 33 = .ok (.goto 4, 3) := by decide +kernel
theorem dX12_itHas_36 : decode cX12_itHas 36 = .ok (.iconst 4, 1) := by decide +kernel
theorem dX12_itHas_37 : decode cX12_itHas 37 = .ok (.ireturn, 1) := by decide +kernel
theorem dX12_speakerHas_0 : decode cX12_speakerHas 0 = .ok (.iload_n 2, 1) := by decide +kernel
theorem dX12_speakerHas_1 : decode cX12_speakerHas 1 = .ok (.ifCond .ne 13, 3) := by decide +kernel
theorem dX12_speakerHas_4 : decode cX12_speakerHas 4 = .ok (.iload_n 3, 1) := by decide +kernel
theorem dX12_speakerHas_5 : decode cX12_speakerHas 5 = .ok (.ifCond .ne 7, 3) := by decide +kernel
theorem dX12_speakerHas_8 : decode cX12_speakerHas 8 = .ok (.iconst 2, 1) := by decide +kernel
theorem dX12_speakerHas_9 : decode cX12_speakerHas 9 = .ok (.goto 4, 3) := by decide +kernel
theorem dX12_speakerHas_12 : decode cX12_speakerHas 12 = .ok (.iconst 1, 1) := by decide +kernel
theorem dX12_speakerHas_13 : decode cX12_speakerHas 13 = .ok (.ireturn, 1) := by decide +kernel
theorem dX12_speakerHas_14 : decode cX12_speakerHas 14 = .ok (.iload_n 3, 1) := by decide +kernel
theorem dX12_speakerHas_15 : decode cX12_speakerHas 15 = .ok (.ifCond .ne 13, 3) := by decide +kernel
theorem dX12_speakerHas_18 : decode cX12_speakerHas 18 = .ok (.aload_n 0, 1) := by decide +kernel
theorem dX12_speakerHas_19 : decode cX12_speakerHas 19 = .ok (.iload_n 1, 1) := by decide +kernel
theorem dX12_speakerHas_20 : decode cX12_speakerHas 20 = .ok (.iconst 1, 1) := by decide +kernel
theorem dX12_speakerHas_21 : decode cX12_speakerHas 21 = .ok (.invokevirtual 263, 3) := by decide +kernel
theorem dX12_speakerHas_24 : decode cX12_speakerHas 24 = .ok (.ineg, 1) := by decide +kernel
theorem dX12_speakerHas_25 : decode cX12_speakerHas 25 = .ok (.goto 4, 3) := by decide +kernel
theorem dX12_speakerHas_28 : decode cX12_speakerHas 28 = .ok (.iconst 3, 1) := by decide +kernel
theorem dX12_speakerHas_29 : decode cX12_speakerHas 29 = .ok (.ireturn, 1) := by decide +kernel
theorem dX12_rests_0 : decode cX12_rests 0 = .ok (.aload_n 0, 1) := by decide +kernel
theorem dX12_rests_1 : decode cX12_rests 1 = .ok (.aload_n 0, 1) := by decide +kernel
theorem dX12_rests_2 : decode cX12_rests 2 = .ok (.iload_n 1, 1) := by decide +kernel
theorem dX12_rests_3 : decode cX12_rests 3 = .ok (.invokevirtual 329, 3) := by decide +kernel
theorem dX12_rests_6 : decode cX12_rests 6 = .ok (.ifCond .ne 7, 3) := by decide +kernel
theorem dX12_rests_9 : decode cX12_rests 9 = .ok (.iconst 1, 1) := by decide +kernel
theorem dX12_rests_10 : decode cX12_rests 10 = .ok (.goto 4, 3) := by decide +kernel
theorem dX12_rests_13 : decode cX12_rests 13 = .ok (.iconst 0, 1) := by decide +kernel
theorem dX12_rests_14 : decode cX12_rests 14 = .ok (.putfield 57, 3) := by decide +kernel
theorem dX12_rests_17 : decode cX12_rests 17 = .ok (.aload_n 0, 1) := by decide +kernel
theorem dX12_rests_18 : decode cX12_rests 18 = .ok (.getfield 57, 3) := by decide +kernel
theorem dX12_rests_21 : decode cX12_rests 21 = .ok (.ifCond .le 5, 3) := by decide +kernel
theorem dX12_rests_24 : decode cX12_rests 24 = .ok (.iconst 0, 1) := by decide +kernel
theorem dX12_rests_25 : decode cX12_rests 25 = .ok (.ireturn, 1) := by decide +kernel
theorem dX12_rests_26 : decode cX12_rests 26 = .ok (.iconst 0, 1) := by decide +kernel
theorem dX12_rests_27 : decode cX12_rests 27 = .ok (.istore_n 2, 1) := by decide +kernel
theorem dX12_rests_28 : decode cX12_rests 28 = .ok (.iconst 0, 1) := by decide +kernel
theorem dX12_rests_29 : decode cX12_rests 29 = .ok (.istore_n 3, 1) := by decide +kernel
theorem dX12_rests_30 : decode cX12_rests 30 = .ok (.iload_n 3, 1) := by decide +kernel
theorem dX12_rests_31 : decode cX12_rests 31 = .ok (.iconst 4, 1) := by decide +kernel
theorem dX12_rests_32 : decode cX12_rests 32 = .ok (.if_icmp .ge 71, 3) := by decide +kernel
theorem dX12_rests_35 : decode cX12_rests 35 = .ok (.iload_n 3, 1) := by decide +kernel
theorem dX12_rests_36 : decode cX12_rests 36 = .ok (.iconst 2, 1) := by decide +kernel
theorem dX12_rests_37 : decode cX12_rests 37 = .ok (.idiv, 1) := by decide +kernel
theorem dX12_rests_38 : decode cX12_rests 38 = .ok (.istore 4, 2) := by decide +kernel
theorem dX12_rests_40 : decode cX12_rests 40 = .ok (.iload_n 3, 1) := by decide +kernel
theorem dX12_rests_41 : decode cX12_rests 41 = .ok (.iconst 2, 1) := by decide +kernel
theorem dX12_rests_42 : decode cX12_rests 42 = .ok (.irem, 1) := by decide +kernel
theorem dX12_rests_43 : decode cX12_rests 43 = .ok (.istore 5, 2) := by decide +kernel
theorem dX12_rests_45 : decode cX12_rests 45 = .ok (.aload_n 0, 1) := by decide +kernel
theorem dX12_rests_46 : decode cX12_rests 46 = .ok (.iload_n 1, 1) := by decide +kernel
theorem dX12_rests_47 : decode cX12_rests 47 = .ok (.iconst 1, 1) := by decide +kernel
theorem dX12_rests_48 : decode cX12_rests 48 = .ok (.iload 4, 2) := by decide +kernel
theorem dX12_rests_50 : decode cX12_rests 50 = .ok (.isub, 1) := by decide +kernel
theorem dX12_rests_51 : decode cX12_rests 51 = .ok (.iload 5, 2) := by decide +kernel
theorem dX12_rests_53 : decode cX12_rests 53 = .ok (.invokevirtual 399, 3) := by decide +kernel
theorem dX12_rests_56 : decode cX12_rests 56 = .ok (.aload_n 0, 1) := by decide +kernel
theorem dX12_rests_57 : decode cX12_rests 57 = .ok (.iload_n 1, 1) := by decide +kernel
theorem dX12_rests_58 : decode cX12_rests 58 = .ok (.iload 4, 2) := by decide +kernel
theorem dX12_rests_60 : decode cX12_rests 60 = .ok (.iload 5, 2) := by decide +kernel
theorem dX12_rests_62 : decode cX12_rests 62 = .ok (.invokevirtual 399, 3) := by decide +kernel
theorem dX12_rests_65 : decode cX12_rests 65 = .ok (.if_icmp .gt 32, 3) := by decide +kernel
theorem dX12_rests_68 : decode cX12_rests 68 = .ok (.aload_n 0, 1) := by decide +kernel
theorem dX12_rests_69 : decode cX12_rests 69 = .ok (.iload_n 1, 1) := by decide +kernel
theorem dX12_rests_70 : decode cX12_rests 70 = .ok (.iload 4, 2) := by decide +kernel
theorem dX12_rests_72 : decode cX12_rests 72 = .ok (.iconst 1, 1) := by decide +kernel
theorem dX12_rests_73 : decode cX12_rests 73 = .ok (.iload 5, 2) := by decide +kernel
theorem dX12_rests_75 : decode cX12_rests 75 = .ok (.isub, 1) := by decide +kernel
theorem dX12_rests_76 : decode cX12_rests 76 = .ok (.invokevirtual 402, 3) := by decide +kernel
theorem dX12_rests_79 : decode cX12_rests 79 = .ok (.aload_n 0, 1) := by decide +kernel
theorem dX12_rests_80 : decode cX12_rests 80 = .ok (.iload_n 1, 1) := by decide +kernel
theorem dX12_rests_81 : decode cX12_rests 81 = .ok (.iload 4, 2) := by decide +kernel
theorem dX12_rests_83 : decode cX12_rests 83 = .ok (.iload 5, 2) := by decide +kernel
theorem dX12_rests_85 : decode cX12_rests 85 = .ok (.invokevirtual 402, 3) := by decide +kernel
theorem dX12_rests_88 : decode cX12_rests 88 = .ok (.if_icmp .gt 9, 3) := by decide +kernel
theorem dX12_rests_91 : decode cX12_rests 91 = .ok (.iload_n 2, 1) := by decide +kernel
theorem dX12_rests_92 : decode cX12_rests 92 = .ok (.iconst 1, 1) := by decide +kernel
theorem dX12_rests_93 : decode cX12_rests 93 = .ok (.iload_n 3, 1) := by decide +kernel
theorem dX12_rests_94 : decode cX12_rests 94 = .ok (.ishl, 1) := by decide +kernel
theorem dX12_rests_95 : decode cX12_rests 95 = .ok (.ior, 1) := by decide +kernel
theorem dX12_rests_96 : decode cX12_rests 96 = .ok (.istore_n 2, 1) := by decide +kernel
theorem dX12_rests_97 : decode cX12_rests 97 = .ok (.iinc 3 1, 3) := by decide +kernel
theorem dX12_rests_100 : decode cX12_rests 100 = .ok (.goto (-70), 3) := by decide +kernel
theorem dX12_rests_103 : decode cX12_rests 103 = .ok (.iload_n 2, 1) := by decide +kernel
theorem dX12_rests_104 : decode cX12_rests 104 = .ok (.ireturn, 1) := by decide +kernel
theorem dX12_odds_0 : decode cX12_odds 0 = .ok (.aload_n 0, 1) := by decide +kernel
theorem dX12_odds_1 : decode cX12_odds 1 = .ok (.aload_n 0, 1) := by decide +kernel
theorem dX12_odds_2 : decode cX12_odds 2 = .ok (.iload_n 1, 1) := by decide +kernel
theorem dX12_odds_3 : decode cX12_odds 3 = .ok (.invokevirtual 329, 3) := by decide +kernel
theorem dX12_odds_6 : decode cX12_odds 6 = .ok (.ifCond .eq 11, 3) := by decide +kernel
theorem dX12_odds_9 : decode cX12_odds 9 = .ok (.aload_n 0, 1) := by decide +kernel
theorem dX12_odds_10 : decode cX12_odds 10 = .ok (.iload_n 2, 1) := by decide +kernel
theorem dX12_odds_11 : decode cX12_odds 11 = .ok (.invokevirtual 316, 3) := by decide +kernel
theorem dX12_odds_14 : decode cX12_odds 14 = .ok (.ifCond .ne 7, 3) := by decide +kernel
theorem dX12_odds_17 : decode cX12_odds 17 = .ok (.iconst 1, 1) := by decide +kernel
theorem dX12_odds_18 : decode cX12_odds 18 = .ok (.goto 17, 3) := by decide +kernel
theorem dX12_odds_21 : decode cX12_odds 21 = .ok (.iload_n 3, 1) := by decide +kernel
theorem dX12_odds_22 : decode cX12_odds 22 = .ok (.iconst 0, 1) := by decide +kernel
theorem dX12_odds_23 : decode cX12_odds 23 = .ok (.iconst 4, 1) := by decide +kernel
theorem dX12_odds_24 : decode cX12_odds 24 = .ok (.invokestatic 60, 3) := by decide +kernel
theorem dX12_odds_27 : decode cX12_odds 27 = .ok (.ifCond .ne 7, 3) := by decide +kernel
theorem dX12_odds_30 : decode cX12_odds 30 = .ok (.iconst 2, 1) := by decide +kernel
theorem dX12_odds_31 : decode cX12_odds 31 = .ok (.goto 4, 3) := by decide +kernel
theorem dX12_odds_34 : decode cX12_odds 34 = .ok (.iconst 0, 1) := by decide +kernel
theorem dX12_odds_35 : decode cX12_odds 35 = .ok (.putfield 57, 3) := by decide +kernel
theorem dX12_odds_38 : decode cX12_odds 38 = .ok (.aload_n 0, 1) := by decide +kernel
theorem dX12_odds_39 : decode cX12_odds 39 = .ok (.getfield 57, 3) := by decide +kernel
theorem dX12_odds_42 : decode cX12_odds 42 = .ok (.ifCond .le 5, 3) := by decide +kernel
theorem dX12_odds_45 : decode cX12_odds 45 = .ok (.iconst 0, 1) := by decide +kernel
theorem dX12_odds_46 : decode cX12_odds 46 = .ok (.ireturn, 1) := by decide +kernel
theorem dX12_odds_47 : decode cX12_odds 47 = .ok (.sipush 10000, 3) := by decide +kernel
theorem dX12_odds_50 : decode cX12_odds 50 = .ok (.istore 4, 2) := by decide +kernel
theorem dX12_odds_52 : decode cX12_odds 52 = .ok (.iconst 0, 1) := by decide +kernel
theorem dX12_odds_53 : decode cX12_odds 53 = .ok (.istore 5, 2) := by decide +kernel
theorem dX12_odds_55 : decode cX12_odds 55 = .ok (.iload 5, 2) := by decide +kernel
theorem dX12_odds_57 : decode cX12_odds 57 = .ok (.iload_n 3, 1) := by decide +kernel
theorem dX12_odds_58 : decode cX12_odds 58 = .ok (.if_icmp .ge 26, 3) := by decide +kernel
theorem dX12_odds_61 : decode cX12_odds 61 = .ok (.iload 4, 2) := by decide +kernel
theorem dX12_odds_63 : decode cX12_odds 63 = .ok (.bipush 100, 2) := by decide +kernel
theorem dX12_odds_65 : decode cX12_odds 65 = .ok (.aload_n 0, 1) := by decide +kernel
theorem dX12_odds_66 : decode cX12_odds 66 = .ok (.iload_n 1, 1) := by decide +kernel
theorem dX12_odds_67 : decode cX12_odds 67 = .ok (.iload_n 2, 1) := by decide +kernel
theorem dX12_odds_68 : decode cX12_odds 68 = .ok (.invokevirtual 280, 3) := by decide +kernel
theorem dX12_odds_71 : decode cX12_odds 71 = .ok (.isub, 1) := by decide +kernel
theorem dX12_odds_72 : decode cX12_odds 72 = .ok (.imul, 1) := by decide +kernel
theorem dX12_odds_73 : decode cX12_odds 73 = .ok (.bipush 100, 2) := by decide +kernel
theorem dX12_odds_75 : decode cX12_odds 75 = .ok (.idiv, 1) := by decide +kernel
theorem dX12_odds_76 : decode cX12_odds 76 = .ok (.istore 4, 2) := by decide +kernel
theorem dX12_odds_78 : decode cX12_odds 78 = .ok (.iinc 5 1, 3) := by decide +kernel
theorem dX12_odds_81 : decode cX12_odds 81 = .ok (.goto (-26), 3) := by decide +kernel
theorem dX12_odds_84 : decode cX12_odds 84 = .ok (.iload 4, 2) := by decide +kernel
theorem dX12_odds_86 : decode cX12_odds 86 = .ok (.ireturn, 1) := by decide +kernel
theorem dX12_oftenest_0 : decode cX12_oftenest 0 = .ok (.aload_n 0, 1) := by decide +kernel
theorem dX12_oftenest_1 : decode cX12_oftenest 1 = .ok (.iconst 0, 1) := by decide +kernel
theorem dX12_oftenest_2 : decode cX12_oftenest 2 = .ok (.putfield 57, 3) := by decide +kernel
theorem dX12_oftenest_5 : decode cX12_oftenest 5 = .ok (.iload_n 1, 1) := by decide +kernel
theorem dX12_oftenest_6 : decode cX12_oftenest 6 = .ok (.ifCond .eq 8, 3) := by decide +kernel
theorem dX12_oftenest_9 : decode cX12_oftenest 9 = .ok (.bipush 7, 2) := by decide +kernel
theorem dX12_oftenest_11 : decode cX12_oftenest 11 = .ok (.goto 5, 3) := by decide +kernel
theorem dX12_oftenest_14 : decode cX12_oftenest 14 = .ok (.bipush 6, 2) := by decide +kernel
theorem dX12_oftenest_16 : decode cX12_oftenest 16 = .ok (.istore_n 2, 1) := by decide +kernel
theorem dX12_oftenest_17 : decode cX12_oftenest 17 = .ok (.iconst (-1), 1) := by decide +kernel
theorem dX12_oftenest_18 : decode cX12_oftenest 18 = .ok (.istore_n 3, 1) := by decide +kernel
theorem dX12_oftenest_19 : decode cX12_oftenest 19 = .ok (.iconst 0, 1) := by decide +kernel
theorem dX12_oftenest_20 : decode cX12_oftenest 20 = .ok (.istore 4, 2) := by decide +kernel
theorem dX12_oftenest_22 : decode cX12_oftenest 22 = .ok (.iload 4, 2) := by decide +kernel
theorem dX12_oftenest_24 : decode cX12_oftenest 24 = .ok (.aload_n 0, 1) := by decide +kernel
theorem dX12_oftenest_25 : decode cX12_oftenest 25 = .ok (.getfield 7, 3) := by decide +kernel
theorem dX12_oftenest_28 : decode cX12_oftenest 28 = .ok (.iconst 3, 1) := by decide +kernel
theorem dX12_oftenest_29 : decode cX12_oftenest 29 = .ok (.iaload, 1) := by decide +kernel
theorem dX12_oftenest_30 : decode cX12_oftenest 30 = .ok (.if_icmp .ge 33, 3) := by decide +kernel
theorem dX12_oftenest_33 : decode cX12_oftenest 33 = .ok (.iload_n 3, 1) := by decide +kernel
theorem dX12_oftenest_34 : decode cX12_oftenest 34 = .ok (.iconst (-1), 1) := by decide +kernel
theorem dX12_oftenest_35 : decode cX12_oftenest 35 = .ok (.if_icmp .eq 19, 3) := by decide +kernel
theorem dX12_oftenest_38 : decode cX12_oftenest 38 = .ok (.aload_n 0, 1) := by decide +kernel
theorem dX12_oftenest_39 : decode cX12_oftenest 39 = .ok (.iload 4, 2) := by decide +kernel
theorem dX12_oftenest_41 : decode cX12_oftenest 41 = .ok (.iload_n 2, 1) := by decide +kernel
theorem dX12_oftenest_42 : decode cX12_oftenest 42 = .ok (.invokevirtual 245, 3) := by decide +kernel
theorem dX12_oftenest_45 : decode cX12_oftenest 45 = .ok (.aload_n 0, 1) := by decide +kernel
theorem dX12_oftenest_46 : decode cX12_oftenest 46 = .ok (.iload_n 3, 1) := by decide +kernel
theorem dX12_oftenest_47 : decode cX12_oftenest 47 = .ok (.iload_n 2, 1) := by decide +kernel
theorem dX12_oftenest_48 : decode cX12_oftenest 48 = .ok (.invokevirtual 245, 3) := by decide +kernel
theorem dX12_oftenest_51 : decode cX12_oftenest 51 = .ok (.if_icmp .le 6, 3) := by decide +kernel
theorem dX12_oftenest_54 : decode cX12_oftenest 54 = .ok (.iload 4, 2) := by decide +kernel
theorem dX12_oftenest_56 : decode cX12_oftenest 56 = .ok (.istore_n 3, 1) := by decide +kernel
theorem dX12_oftenest_57 : decode cX12_oftenest 57 = .ok (.iinc 4 1, 3) := by decide +kernel
theorem dX12_oftenest_60 : decode cX12_oftenest 60 = .ok (.goto (-38), 3) := by decide +kernel
theorem dX12_oftenest_63 : decode cX12_oftenest 63 = .ok (.iload_n 3, 1) := by decide +kernel
theorem dX12_oftenest_64 : decode cX12_oftenest 64 = .ok (.ireturn, 1) := by decide +kernel
theorem dX12_quickest_0 : decode cX12_quickest 0 = .ok (.aload_n 0, 1) := by decide +kernel
theorem dX12_quickest_1 : decode cX12_quickest 1 = .ok (.iconst 0, 1) := by decide +kernel
theorem dX12_quickest_2 : decode cX12_quickest 2 = .ok (.putfield 57, 3) := by decide +kernel
theorem dX12_quickest_5 : decode cX12_quickest 5 = .ok (.iload_n 1, 1) := by decide +kernel
theorem dX12_quickest_6 : decode cX12_quickest 6 = .ok (.ifCond .eq 7, 3) := by decide +kernel
theorem dX12_quickest_9 : decode cX12_quickest 9 = .ok (.iconst 1, 1) := by decide +kernel
theorem dX12_quickest_10 : decode cX12_quickest 10 = .ok (.goto 4, 3) := by decide +kernel
theorem dX12_quickest_13 : decode cX12_quickest 13 = .ok (.iconst 3, 1) := by decide +kernel
theorem dX12_quickest_14 : decode cX12_quickest 14 = .ok (.istore_n 2, 1) := by decide +kernel
theorem dX12_quickest_15 : decode cX12_quickest 15 = .ok (.iconst (-1), 1) := by decide +kernel
theorem dX12_quickest_16 : decode cX12_quickest 16 = .ok (.istore_n 3, 1) := by decide +kernel
theorem dX12_quickest_17 : decode cX12_quickest 17 = .ok (.iconst 0, 1) := by decide +kernel
theorem dX12_quickest_18 : decode cX12_quickest 18 = .ok (.istore 4, 2) := by decide +kernel
theorem dX12_quickest_20 : decode cX12_quickest 20 = .ok (.iload 4, 2) := by decide +kernel
theorem dX12_quickest_22 : decode cX12_quickest 22 = .ok (.aload_n 0, 1) := by decide +kernel
theorem dX12_quickest_23 : decode cX12_quickest 23 = .ok (.getfield 7, 3) := by decide +kernel
theorem dX12_quickest_26 : decode cX12_quickest 26 = .ok (.iconst 4, 1) := by decide +kernel
theorem dX12_quickest_27 : decode cX12_quickest 27 = .ok (.iaload, 1) := by decide +kernel
theorem dX12_quickest_28 : decode cX12_quickest 28 = .ok (.if_icmp .ge 33, 3) := by decide +kernel
theorem dX12_quickest_31 : decode cX12_quickest 31 = .ok (.iload_n 3, 1) := by decide +kernel
theorem dX12_quickest_32 : decode cX12_quickest 32 = .ok (.iconst (-1), 1) := by decide +kernel
theorem dX12_quickest_33 : decode cX12_quickest 33 = .ok (.if_icmp .eq 19, 3) := by decide +kernel
theorem dX12_quickest_36 : decode cX12_quickest 36 = .ok (.aload_n 0, 1) := by decide +kernel
theorem dX12_quickest_37 : decode cX12_quickest 37 = .ok (.iload 4, 2) := by decide +kernel
theorem dX12_quickest_39 : decode cX12_quickest 39 = .ok (.iload_n 2, 1) := by decide +kernel
theorem dX12_quickest_40 : decode cX12_quickest 40 = .ok (.invokevirtual 263, 3) := by decide +kernel
theorem dX12_quickest_43 : decode cX12_quickest 43 = .ok (.aload_n 0, 1) := by decide +kernel
theorem dX12_quickest_44 : decode cX12_quickest 44 = .ok (.iload_n 3, 1) := by decide +kernel
theorem dX12_quickest_45 : decode cX12_quickest 45 = .ok (.iload_n 2, 1) := by decide +kernel
theorem dX12_quickest_46 : decode cX12_quickest 46 = .ok (.invokevirtual 263, 3) := by decide +kernel
theorem dX12_quickest_49 : decode cX12_quickest 49 = .ok (.if_icmp .le 6, 3) := by decide +kernel
theorem dX12_quickest_52 : decode cX12_quickest 52 = .ok (.iload 4, 2) := by decide +kernel
theorem dX12_quickest_54 : decode cX12_quickest 54 = .ok (.istore_n 3, 1) := by decide +kernel
theorem dX12_quickest_55 : decode cX12_quickest 55 = .ok (.iinc 4 1, 3) := by decide +kernel
theorem dX12_quickest_58 : decode cX12_quickest 58 = .ok (.goto (-38), 3) := by decide +kernel
theorem dX12_quickest_61 : decode cX12_quickest 61 = .ok (.iload_n 3, 1) := by decide +kernel
theorem dX12_quickest_62 : decode cX12_quickest 62 = .ok (.ireturn, 1) := by decide +kernel
theorem dX12_countOf_0 : decode cX12_countOf 0 = .ok (.iconst 0, 1) := by decide +kernel
theorem dX12_countOf_1 : decode cX12_countOf 1 = .ok (.istore_n 3, 1) := by decide +kernel
theorem dX12_countOf_2 : decode cX12_countOf 2 = .ok (.iconst 0, 1) := by decide +kernel
theorem dX12_countOf_3 : decode cX12_countOf 3 = .ok (.istore 4, 2) := by decide +kernel
theorem dX12_countOf_5 : decode cX12_countOf 5 = .ok (.iload 4, 2) := by decide +kernel
theorem dX12_countOf_7 : decode cX12_countOf 7 = .ok (.aload_n 0, 1) := by decide +kernel
theorem dX12_countOf_8 : decode cX12_countOf 8 = .ok (.iload_n 1, 1) := by decide +kernel
theorem dX12_countOf_9 : decode cX12_countOf 9 = .ok (.bipush 6, 2) := by decide +kernel
theorem dX12_countOf_11 : decode cX12_countOf 11 = .ok (.invokevirtual 245, 3) := by decide +kernel
theorem dX12_countOf_14 : decode cX12_countOf 14 = .ok (.if_icmp .ge 28, 3) := by decide +kernel
theorem dX12_countOf_17 : decode cX12_countOf 17 = .ok (.iload_n 3, 1) := by decide +kernel
theorem dX12_countOf_18 : decode cX12_countOf 18 = .ok (.aload_n 0, 1) := by decide +kernel
theorem dX12_countOf_19 : decode cX12_countOf 19 = .ok (.iload_n 1, 1) := by decide +kernel
theorem dX12_countOf_20 : decode cX12_countOf 20 = .ok (.iload 4, 2) := by decide +kernel
theorem dX12_countOf_22 : decode cX12_countOf 22 = .ok (.invokevirtual 245, 3) := by decide +kernel
theorem dX12_countOf_25 : decode cX12_countOf 25 = .ok (.iload_n 2, 1) := by decide +kernel
theorem dX12_countOf_26 : decode cX12_countOf 26 = .ok (.if_icmp .ne 7, 3) := by decide +kernel
theorem dX12_countOf_29 : decode cX12_countOf 29 = .ok (.iconst 1, 1) := by decide +kernel
theorem dX12_countOf_30 : decode cX12_countOf 30 = .ok (.goto 4, 3) := by decide +kernel
theorem dX12_countOf_33 : decode cX12_countOf 33 = .ok (.iconst 0, 1) := by decide +kernel
theorem dX12_countOf_34 : decode cX12_countOf 34 = .ok (.iadd, 1) := by decide +kernel
theorem dX12_countOf_35 : decode cX12_countOf 35 = .ok (.istore_n 3, 1) := by decide +kernel
theorem dX12_countOf_36 : decode cX12_countOf 36 = .ok (.iinc 4 1, 3) := by decide +kernel
theorem dX12_countOf_39 : decode cX12_countOf 39 = .ok (.goto (-34), 3) := by decide +kernel
theorem dX12_countOf_42 : decode cX12_countOf 42 = .ok (.iload_n 3, 1) := by decide +kernel
theorem dX12_countOf_43 : decode cX12_countOf 43 = .ok (.ireturn, 1) := by decide +kernel
theorem dX12_twins_0 : decode cX12_twins 0 = .ok (.aload_n 0, 1) := by decide +kernel
theorem dX12_twins_1 : decode cX12_twins 1 = .ok (.iconst 0, 1) := by decide +kernel
theorem dX12_twins_2 : decode cX12_twins 2 = .ok (.putfield 57, 3) := by decide +kernel
theorem dX12_twins_5 : decode cX12_twins 5 = .ok (.iconst 0, 1) := by decide +kernel
theorem dX12_twins_6 : decode cX12_twins 6 = .ok (.istore_n 1, 1) := by decide +kernel
theorem dX12_twins_7 : decode cX12_twins 7 = .ok (.iconst 0, 1) := by decide +kernel
theorem dX12_twins_8 : decode cX12_twins 8 = .ok (.istore_n 2, 1) := by decide +kernel
theorem dX12_twins_9 : decode cX12_twins 9 = .ok (.iload_n 2, 1) := by decide +kernel
theorem dX12_twins_10 : decode cX12_twins 10 = .ok (.aload_n 0, 1) := by decide +kernel
theorem dX12_twins_11 : decode cX12_twins 11 = .ok (.getfield 7, 3) := by decide +kernel
theorem dX12_twins_14 : decode cX12_twins 14 = .ok (.iconst 3, 1) := by decide +kernel
theorem dX12_twins_15 : decode cX12_twins 15 = .ok (.iaload, 1) := by decide +kernel
theorem dX12_twins_16 : decode cX12_twins 16 = .ok (.if_icmp .ge 90, 3) := by decide +kernel
theorem dX12_twins_19 : decode cX12_twins 19 = .ok (.iload_n 2, 1) := by decide +kernel
theorem dX12_twins_20 : decode cX12_twins 20 = .ok (.iconst 1, 1) := by decide +kernel
theorem dX12_twins_21 : decode cX12_twins 21 = .ok (.iadd, 1) := by decide +kernel
theorem dX12_twins_22 : decode cX12_twins 22 = .ok (.istore_n 3, 1) := by decide +kernel
theorem dX12_twins_23 : decode cX12_twins 23 = .ok (.iload_n 3, 1) := by decide +kernel
theorem dX12_twins_24 : decode cX12_twins 24 = .ok (.aload_n 0, 1) := by decide +kernel
theorem dX12_twins_25 : decode cX12_twins 25 = .ok (.getfield 7, 3) := by decide +kernel
theorem dX12_twins_28 : decode cX12_twins 28 = .ok (.iconst 3, 1) := by decide +kernel
theorem dX12_twins_29 : decode cX12_twins 29 = .ok (.iaload, 1) := by decide +kernel
theorem dX12_twins_30 : decode cX12_twins 30 = .ok (.if_icmp .ge 70, 3) := by decide +kernel
theorem dX12_twins_33 : decode cX12_twins 33 = .ok (.iconst 1, 1) := by decide +kernel
theorem dX12_twins_34 : decode cX12_twins 34 = .ok (.istore 4, 2) := by decide +kernel
theorem dX12_twins_36 : decode cX12_twins 36 = .ok (.iconst 0, 1) := by decide +kernel
theorem dX12_twins_37 : decode cX12_twins 37 = .ok (.istore 5, 2) := by decide +kernel
theorem dX12_twins_39 : decode cX12_twins 39 = .ok (.iload 5, 2) := by decide +kernel
theorem dX12_twins_41 : decode cX12_twins 41 = .ok (.bipush 8, 2) := by decide +kernel
theorem dX12_twins_43 : decode cX12_twins 43 = .ok (.if_icmp .ge 38, 3) := by decide +kernel
theorem dX12_twins_46 : decode cX12_twins 46 = .ok (.iload 4, 2) := by decide +kernel
theorem dX12_twins_48 : decode cX12_twins 48 = .ok (.ifCond .eq 24, 3) := by decide +kernel
theorem dX12_twins_51 : decode cX12_twins 51 = .ok (.aload_n 0, 1) := by decide +kernel
theorem dX12_twins_52 : decode cX12_twins 52 = .ok (.iload_n 2, 1) := by decide +kernel
theorem dX12_twins_53 : decode cX12_twins 53 = .ok (.iload 5, 2) := by decide +kernel
theorem dX12_twins_55 : decode cX12_twins 55 = .ok (.invokevirtual 405, 3) := by decide +kernel
theorem dX12_twins_58 : decode cX12_twins 58 = .ok (.aload_n 0, 1) := by decide +kernel
theorem dX12_twins_59 : decode cX12_twins 59 = .ok (.iload_n 3, 1) := by decide +kernel
theorem dX12_twins_60 : decode cX12_twins 60 = .ok (.iload 5, 2) := by decide +kernel
theorem dX12_twins_62 : decode cX12_twins 62 = .ok (.invokevirtual 405, 3) := by decide +kernel
theorem dX12_twins_65 : decode cX12_twins 65 = .ok (.if_icmp .ne 7, 3) := by decide +kernel
theorem dX12_twins_68 : decode cX12_twins 68 = .ok (.iconst 1, 1) := by decide +kernel
theorem dX12_twins_69 : decode cX12_twins 69 = .ok (.goto 4, 3) := by decide +kernel
theorem dX12_twins_72 : decode cX12_twins 72 = .ok (.iconst 0, 1) := by decide +kernel
theorem dX12_twins_73 : decode cX12_twins 73 = .ok (.istore 4, 2) := by decide +kernel
theorem dX12_twins_75 : decode cX12_twins 75 = .ok (.iinc 5 1, 3) := by decide +kernel
theorem dX12_twins_78 : decode cX12_twins 78 = .ok (.goto (-39), 3) := by decide +kernel
theorem dX12_twins_81 : decode cX12_twins 81 = .ok (.iload_n 1, 1) := by decide +kernel
theorem dX12_twins_82 : decode cX12_twins 82 = .ok (.iload 4, 2) := by decide +kernel
theorem dX12_twins_84 : decode cX12_twins 84 = .ok (.ifCond .eq 7, 3) := by decide +kernel
theorem dX12_twins_87 : decode cX12_twins 87 = .ok (.iconst 1, 1) := by decide +kernel
theorem dX12_twins_88 : decode cX12_twins 88 = .ok (.goto 4, 3) := by decide +kernel
theorem dX12_twins_91 : decode cX12_twins 91 = .ok (.iconst 0, 1) := by decide +kernel
theorem dX12_twins_92 : decode cX12_twins 92 = .ok (.iadd, 1) := by decide +kernel
theorem dX12_twins_93 : decode cX12_twins 93 = .ok (.istore_n 1, 1) := by decide +kernel
theorem dX12_twins_94 : decode cX12_twins 94 = .ok (.iinc 3 1, 3) := by decide +kernel
theorem dX12_twins_97 : decode cX12_twins 97 = .ok (.goto (-74), 3) := by decide +kernel
theorem dX12_twins_100 : decode cX12_twins 100 = .ok (.iinc 2 1, 3) := by decide +kernel
theorem dX12_twins_103 : decode cX12_twins 103 = .ok (.goto (-94), 3) := by decide +kernel
theorem dX12_twins_106 : decode cX12_twins 106 = .ok (.iload_n 1, 1) := by decide +kernel
theorem dX12_twins_107 : decode cX12_twins 107 = .ok (.ireturn, 1) := by decide +kernel
theorem dX12_usesOf_0 : decode cX12_usesOf 0 = .ok (.iconst 0, 1) := by decide +kernel
theorem dX12_usesOf_1 : decode cX12_usesOf 1 = .ok (.istore_n 2, 1) := by decide +kernel
theorem dX12_usesOf_2 : decode cX12_usesOf 2 = .ok (.iconst 0, 1) := by decide +kernel
theorem dX12_usesOf_3 : decode cX12_usesOf 3 = .ok (.istore_n 3, 1) := by decide +kernel
theorem dX12_usesOf_4 : decode cX12_usesOf 4 = .ok (.iload_n 3, 1) := by decide +kernel
theorem dX12_usesOf_5 : decode cX12_usesOf 5 = .ok (.aload_n 0, 1) := by decide +kernel
theorem dX12_usesOf_6 : decode cX12_usesOf 6 = .ok (.getfield 7, 3) := by decide +kernel
theorem dX12_usesOf_9 : decode cX12_usesOf 9 = .ok (.iconst 3, 1) := by decide +kernel
theorem dX12_usesOf_10 : decode cX12_usesOf 10 = .ok (.iaload, 1) := by decide +kernel
theorem dX12_usesOf_11 : decode cX12_usesOf 11 = .ok (.if_icmp .ge 28, 3) := by decide +kernel
theorem dX12_usesOf_14 : decode cX12_usesOf 14 = .ok (.iload_n 2, 1) := by decide +kernel
theorem dX12_usesOf_15 : decode cX12_usesOf 15 = .ok (.aload_n 0, 1) := by decide +kernel
theorem dX12_usesOf_16 : decode cX12_usesOf 16 = .ok (.iload_n 3, 1) := by decide +kernel
theorem dX12_usesOf_17 : decode cX12_usesOf 17 = .ok (.iload_n 1, 1) := by decide +kernel
theorem dX12_usesOf_18 : decode cX12_usesOf 18 = .ok (.invokevirtual 405, 3) := by decide +kernel
theorem dX12_usesOf_21 : decode cX12_usesOf 21 = .ok (.ifCond .le 9, 3) := by decide +kernel
theorem dX12_usesOf_24 : decode cX12_usesOf 24 = .ok (.iconst 1, 1) := by decide +kernel
theorem dX12_usesOf_25 : decode cX12_usesOf 25 = .ok (.iload_n 3, 1) := by decide +kernel
theorem dX12_usesOf_26 : decode cX12_usesOf 26 = .ok (.ishl, 1) := by decide +kernel
theorem dX12_usesOf_27 : decode cX12_usesOf 27 = .ok (.goto 4, 3) := by decide +kernel
theorem dX12_usesOf_30 : decode cX12_usesOf 30 = .ok (.iconst 0, 1) := by decide +kernel
theorem dX12_usesOf_31 : decode cX12_usesOf 31 = .ok (.ior, 1) := by decide +kernel
theorem dX12_usesOf_32 : decode cX12_usesOf 32 = .ok (.istore_n 2, 1) := by decide +kernel
theorem dX12_usesOf_33 : decode cX12_usesOf 33 = .ok (.iinc 3 1, 3) := by decide +kernel
theorem dX12_usesOf_36 : decode cX12_usesOf 36 = .ok (.goto (-32), 3) := by decide +kernel
theorem dX12_usesOf_39 : decode cX12_usesOf 39 = .ok (.iload_n 2, 1) := by decide +kernel
theorem dX12_usesOf_40 : decode cX12_usesOf 40 = .ok (.ireturn, 1) := by decide +kernel
theorem dX12_uses_0 : decode cX12_uses 0 = .ok (.aload_n 0, 1) := by decide +kernel
theorem dX12_uses_1 : decode cX12_uses 1 = .ok (.iload_n 1, 1) := by decide +kernel
theorem dX12_uses_2 : decode cX12_uses 2 = .ok (.iconst 0, 1) := by decide +kernel
theorem dX12_uses_3 : decode cX12_uses 3 = .ok (.bipush 7, 2) := by decide +kernel
theorem dX12_uses_5 : decode cX12_uses 5 = .ok (.invokestatic 60, 3) := by decide +kernel
theorem dX12_uses_8 : decode cX12_uses 8 = .ok (.ifCond .ne 7, 3) := by decide +kernel
theorem dX12_uses_11 : decode cX12_uses 11 = .ok (.iconst 1, 1) := by decide +kernel
theorem dX12_uses_12 : decode cX12_uses 12 = .ok (.goto 4, 3) := by decide +kernel
theorem dX12_uses_15 : decode cX12_uses 15 = .ok (.iconst 0, 1) := by decide +kernel
theorem dX12_uses_16 : decode cX12_uses 16 = .ok (.putfield 57, 3) := by decide +kernel
theorem dX12_uses_19 : decode cX12_uses 19 = .ok (.aload_n 0, 1) := by decide +kernel
theorem dX12_uses_20 : decode cX12_uses 20 = .ok (.getfield 57, 3) := by decide +kernel
theorem dX12_uses_23 : decode cX12_uses 23 = .ok (.ifCond .le 7, 3) := by decide +kernel
theorem dX12_uses_26 : decode cX12_uses 26 = .ok (.iconst 0, 1) := by decide +kernel
theorem dX12_uses_27 : decode cX12_uses 27 = .ok (.goto 8, 3) := by decide +kernel
theorem dX12_uses_30 : decode cX12_uses 30 = .ok (.aload_n 0, 1) := by decide +kernel
theorem dX12_uses_31 : decode cX12_uses 31 = .ok (.iload_n 1, 1) := by decide +kernel
theorem dX12_uses_32 : decode cX12_uses 32 = .ok (.invokevirtual 408, 3) := by decide +kernel
theorem dX12_uses_35 : decode cX12_uses 35 = .ok (.ireturn, 1) := by decide +kernel
theorem dX12_silent_0 : decode cX12_silent 0 = .ok (.aload_n 0, 1) := by decide +kernel
theorem dX12_silent_1 : decode cX12_silent 1 = .ok (.iconst 0, 1) := by decide +kernel
theorem dX12_silent_2 : decode cX12_silent 2 = .ok (.putfield 57, 3) := by decide +kernel
theorem dX12_silent_5 : decode cX12_silent 5 = .ok (.iconst 0, 1) := by decide +kernel
theorem dX12_silent_6 : decode cX12_silent 6 = .ok (.istore_n 1, 1) := by decide +kernel
theorem dX12_silent_7 : decode cX12_silent 7 = .ok (.iconst 0, 1) := by decide +kernel
theorem dX12_silent_8 : decode cX12_silent 8 = .ok (.istore_n 2, 1) := by decide +kernel
theorem dX12_silent_9 : decode cX12_silent 9 = .ok (.iload_n 2, 1) := by decide +kernel
theorem dX12_silent_10 : decode cX12_silent 10 = .ok (.bipush 8, 2) := by decide +kernel
theorem dX12_silent_12 : decode cX12_silent 12 = .ok (.if_icmp .ge 27, 3) := by decide +kernel
theorem dX12_silent_15 : decode cX12_silent 15 = .ok (.iload_n 1, 1) := by decide +kernel
theorem dX12_silent_16 : decode cX12_silent 16 = .ok (.aload_n 0, 1) := by decide +kernel
theorem dX12_silent_17 : decode cX12_silent 17 = .ok (.iload_n 2, 1) := by decide +kernel
theorem dX12_silent_18 : decode cX12_silent 18 = .ok (.invokevirtual 408, 3) := by decide +kernel
theorem dX12_silent_21 : decode cX12_silent 21 = .ok (.ifCond .ne 9, 3) := by decide +kernel
theorem dX12_silent_24 : decode cX12_silent 24 = .ok (.iconst 1, 1) := by decide +kernel
theorem dX12_silent_25 : decode cX12_silent 25 = .ok (.iload_n 2, 1) := by decide +kernel
theorem dX12_silent_26 : decode cX12_silent 26 = .ok (.ishl, 1) := by decide +kernel
theorem dX12_silent_27 : decode cX12_silent 27 = .ok (.goto 4, 3) := by decide +kernel
theorem dX12_silent_30 : decode cX12_silent 30 = .ok (.iconst 0, 1) := by decide +kernel
theorem dX12_silent_31 : decode cX12_silent 31 = .ok (.ior, 1) := by decide +kernel
theorem dX12_silent_32 : decode cX12_silent 32 = .ok (.istore_n 1, 1) := by decide +kernel
theorem dX12_silent_33 : decode cX12_silent 33 = .ok (.iinc 2 1, 3) := by decide +kernel
theorem dX12_silent_36 : decode cX12_silent 36 = .ok (.goto (-27), 3) := by decide +kernel
theorem dX12_silent_39 : decode cX12_silent 39 = .ok (.iload_n 1, 1) := by decide +kernel
theorem dX12_silent_40 : decode cX12_silent 40 = .ok (.ireturn, 1) := by decide +kernel
theorem dX12_ahead_0 : decode cX12_ahead 0 = .ok (.aload_n 0, 1) := by decide +kernel
theorem dX12_ahead_1 : decode cX12_ahead 1 = .ok (.aload_n 0, 1) := by decide +kernel
theorem dX12_ahead_2 : decode cX12_ahead 2 = .ok (.iload_n 1, 1) := by decide +kernel
theorem dX12_ahead_3 : decode cX12_ahead 3 = .ok (.invokevirtual 329, 3) := by decide +kernel
theorem dX12_ahead_6 : decode cX12_ahead 6 = .ok (.ifCond .ne 7, 3) := by decide +kernel
theorem dX12_ahead_9 : decode cX12_ahead 9 = .ok (.iconst 1, 1) := by decide +kernel
theorem dX12_ahead_10 : decode cX12_ahead 10 = .ok (.goto 18, 3) := by decide +kernel
theorem dX12_ahead_13 : decode cX12_ahead 13 = .ok (.iload_n 2, 1) := by decide +kernel
theorem dX12_ahead_14 : decode cX12_ahead 14 = .ok (.iconst 0, 1) := by decide +kernel
theorem dX12_ahead_15 : decode cX12_ahead 15 = .ok (.bipush 60, 2) := by decide +kernel
theorem dX12_ahead_17 : decode cX12_ahead 17 = .ok (.invokestatic 60, 3) := by decide +kernel
theorem dX12_ahead_20 : decode cX12_ahead 20 = .ok (.ifCond .ne 7, 3) := by decide +kernel
theorem dX12_ahead_23 : decode cX12_ahead 23 = .ok (.iconst 2, 1) := by decide +kernel
theorem dX12_ahead_24 : decode cX12_ahead 24 = .ok (.goto 4, 3) := by decide +kernel
theorem dX12_ahead_27 : decode cX12_ahead 27 = .ok (.iconst 0, 1) := by decide +kernel
theorem dX12_ahead_28 : decode cX12_ahead 28 = .ok (.putfield 57, 3) := by decide +kernel
theorem dX12_ahead_31 : decode cX12_ahead 31 = .ok (.aload_n 0, 1) := by decide +kernel
theorem dX12_ahead_32 : decode cX12_ahead 32 = .ok (.getfield 57, 3) := by decide +kernel
theorem dX12_ahead_35 : decode cX12_ahead 35 = .ok (.ifCond .le 5, 3) := by decide +kernel
theorem dX12_ahead_38 : decode cX12_ahead 38 = .ok (.iconst 0, 1) := by decide +kernel
theorem dX12_ahead_39 : decode cX12_ahead 39 = .ok (.ireturn, 1) := by decide +kernel
theorem dX12_ahead_40 : decode cX12_ahead 40 = .ok (.aload_n 0, 1) := by decide +kernel
theorem dX12_ahead_41 : decode cX12_ahead 41 = .ok (.invokevirtual 177, 3) := by decide +kernel
theorem dX12_ahead_44 : decode cX12_ahead 44 = .ok (.aload_n 0, 1) := by decide +kernel
theorem dX12_ahead_45 : decode cX12_ahead 45 = .ok (.iload_n 2, 1) := by decide +kernel
theorem dX12_ahead_46 : decode cX12_ahead 46 = .ok (.iconst 0, 1) := by decide +kernel
theorem dX12_ahead_47 : decode cX12_ahead 47 = .ok (.invokevirtual 359, 3) := by decide +kernel
theorem dX12_ahead_50 : decode cX12_ahead 50 = .ok (.istore_n 3, 1) := by decide +kernel
theorem dX12_ahead_51 : decode cX12_ahead 51 = .ok (.aload_n 0, 1) := by decide +kernel
theorem dX12_ahead_52 : decode cX12_ahead 52 = .ok (.iload_n 1, 1) := by decide +kernel
theorem dX12_ahead_53 : decode cX12_ahead 53 = .ok (.iconst 3, 1) := by decide +kernel
theorem dX12_ahead_54 : decode cX12_ahead 54 = .ok (.invokevirtual 263, 3) := by decide +kernel
theorem dX12_ahead_57 : decode cX12_ahead 57 = .ok (.istore 4, 2) := by decide +kernel
theorem dX12_ahead_59 : decode cX12_ahead 59 = .ok (.aload_n 0, 1) := by decide +kernel
theorem dX12_ahead_60 : decode cX12_ahead 60 = .ok (.invokevirtual 187, 3) := by decide +kernel
theorem dX12_ahead_63 : decode cX12_ahead 63 = .ok (.iload 4, 2) := by decide +kernel
theorem dX12_ahead_65 : decode cX12_ahead 65 = .ok (.ireturn, 1) := by decide +kernel
theorem dX12_trial_0 : decode cX12_trial 0 = .ok (.aload_n 0, 1) := by decide +kernel
theorem dX12_trial_1 : decode cX12_trial 1 = .ok (.iload_n 1, 1) := by decide +kernel
theorem dX12_trial_2 : decode cX12_trial 2 = .ok (.iconst 0, 1) := by decide +kernel
theorem dX12_trial_3 : decode cX12_trial 3 = .ok (.bipush 60, 2) := by decide +kernel
theorem dX12_trial_5 : decode cX12_trial 5 = .ok (.invokestatic 60, 3) := by decide +kernel
theorem dX12_trial_8 : decode cX12_trial 8 = .ok (.ifCond .ne 7, 3) := by decide +kernel
theorem dX12_trial_11 : decode cX12_trial 11 = .ok (.iconst 1, 1) := by decide +kernel
theorem dX12_trial_12 : decode cX12_trial 12 = .ok (.goto 4, 3) := by decide +kernel
theorem dX12_trial_15 : decode cX12_trial 15 = .ok (.iconst 0, 1) := by decide +kernel
theorem dX12_trial_16 : decode cX12_trial 16 = .ok (.putfield 57, 3) := by decide +kernel
theorem dX12_trial_19 : decode cX12_trial 19 = .ok (.aload_n 0, 1) := by decide +kernel
theorem dX12_trial_20 : decode cX12_trial 20 = .ok (.getfield 57, 3) := by decide +kernel
theorem dX12_trial_23 : decode cX12_trial 23 = .ok (.ifCond .le 5, 3) := by decide +kernel
theorem dX12_trial_26 : decode cX12_trial 26 = .ok (.iconst 0, 1) := by decide +kernel
theorem dX12_trial_27 : decode cX12_trial 27 = .ok (.ireturn, 1) := by decide +kernel
theorem dX12_trial_28 : decode cX12_trial 28 = .ok (.aload_n 0, 1) := by decide +kernel
theorem dX12_trial_29 : decode cX12_trial 29 = .ok (.invokevirtual 177, 3) := by decide +kernel
theorem dX12_trial_32 : decode cX12_trial 32 = .ok (.aload_n 0, 1) := by decide +kernel
theorem dX12_trial_33 : decode cX12_trial 33 = .ok (.iload_n 1, 1) := by decide +kernel
theorem dX12_trial_34 : decode cX12_trial 34 = .ok (.iconst 1, 1) := by decide +kernel
theorem dX12_trial_35 : decode cX12_trial 35 = .ok (.invokevirtual 359, 3) := by decide +kernel
theorem dX12_trial_38 : decode cX12_trial 38 = .ok (.istore_n 3, 1) := by decide +kernel
theorem dX12_trial_39 : decode cX12_trial 39 = .ok (.iload_n 2, 1) := by decide +kernel
theorem dX12_trial_40 : decode cX12_trial 40 = .ok (.ifCond .eq 10, 3) := by decide +kernel
theorem dX12_trial_43 : decode cX12_trial 43 = .ok (.aload_n 0, 1) := by decide +kernel
theorem dX12_trial_44 : decode cX12_trial 44 = .ok (.invokevirtual 411, 3) := by decide +kernel
theorem dX12_trial_47 : decode cX12_trial 47 = .ok (.goto 8, 3) := by decide +kernel
theorem dX12_trial_50 : decode cX12_trial 50 = .ok (.aload_n 0, 1) := by decide +kernel
theorem dX12_trial_51 : decode cX12_trial 51 = .ok (.iconst 1, 1) := by decide +kernel
theorem dX12_trial_52 : decode cX12_trial 52 = .ok (.invokevirtual 350, 3) := by decide +kernel
theorem dX12_trial_55 : decode cX12_trial 55 = .ok (.istore 4, 2) := by decide +kernel
theorem dX12_trial_57 : decode cX12_trial 57 = .ok (.aload_n 0, 1) := by decide +kernel
theorem dX12_trial_58 : decode cX12_trial 58 = .ok (.invokevirtual 187, 3) := by decide +kernel
theorem dX12_trial_61 : decode cX12_trial 61 = .ok (.iload 4, 2) := by decide +kernel
theorem dX12_trial_63 : decode cX12_trial 63 = .ok (.ireturn, 1) := by decide +kernel
theorem dX12_span_0 : decode cX12_span 0 = .ok (.aload_n 0, 1) := by decide +kernel
theorem dX12_span_1 : decode cX12_span 1 = .ok (.iload_n 1, 1) := by decide +kernel
theorem dX12_span_2 : decode cX12_span 2 = .ok (.iconst 0, 1) := by decide +kernel
theorem dX12_span_3 : decode cX12_span 3 = .ok (.bipush 60, 2) := by decide +kernel
theorem dX12_span_5 : decode cX12_span 5 = .ok (.invokestatic 60, 3) := by decide +kernel
theorem dX12_span_8 : decode cX12_span 8 = .ok (.ifCond .ne 7, 3) := by decide +kernel
theorem dX12_span_11 : decode cX12_span 11 = .ok (.iconst 1, 1) := by decide +kernel
theorem dX12_span_12 : decode cX12_span 12 = .ok (.goto 4, 3) := by decide +kernel
theorem dX12_span_15 : decode cX12_span 15 = .ok (.iconst 0, 1) := by decide +kernel
theorem dX12_span_16 : decode cX12_span 16 = .ok (.putfield 57, 3) := by decide +kernel
theorem dX12_span_19 : decode cX12_span 19 = .ok (.aload_n 0, 1) := by decide +kernel
theorem dX12_span_20 : decode cX12_span 20 = .ok (.getfield 57, 3) := by decide +kernel
theorem dX12_span_23 : decode cX12_span 23 = .ok (.ifCond .le 5, 3) := by decide +kernel
theorem dX12_span_26 : decode cX12_span 26 = .ok (.iconst 0, 1) := by decide +kernel
theorem dX12_span_27 : decode cX12_span 27 = .ok (.ireturn, 1) := by decide +kernel
theorem dX12_span_28 : decode cX12_span 28 = .ok (.aload_n 0, 1) := by decide +kernel
theorem dX12_span_29 : decode cX12_span 29 = .ok (.invokevirtual 177, 3) := by decide +kernel
theorem dX12_span_32 : decode cX12_span 32 = .ok (.iconst (-1), 1) := by decide +kernel
theorem dX12_span_33 : decode cX12_span 33 = .ok (.istore_n 3, 1) := by decide +kernel
theorem dX12_span_34 : decode cX12_span 34 = .ok (.iconst 1, 1) := by decide +kernel
theorem dX12_span_35 : decode cX12_span 35 = .ok (.istore 4, 2) := by decide +kernel
theorem dX12_span_37 : decode cX12_span 37 = .ok (.iload 4, 2) := by decide +kernel
theorem dX12_span_39 : decode cX12_span 39 = .ok (.bipush 6, 2) := by decide +kernel
theorem dX12_span_41 : decode cX12_span 41 = .ok (.if_icmp .gt 67, 3) := by decide +kernel
theorem dX12_span_44 : decode cX12_span 44 = .ok (.aload_n 0, 1) := by decide +kernel
theorem dX12_span_45 : decode cX12_span 45 = .ok (.getfield 7, 3) := by decide +kernel
theorem dX12_span_48 : decode cX12_span 48 = .ok (.bipush 11, 2) := by decide +kernel
theorem dX12_span_50 : decode cX12_span 50 = .ok (.iload 4, 2) := by decide +kernel
theorem dX12_span_52 : decode cX12_span 52 = .ok (.iastore, 1) := by decide +kernel
theorem dX12_span_53 : decode cX12_span 53 = .ok (.aload_n 0, 1) := by decide +kernel
theorem dX12_span_54 : decode cX12_span 54 = .ok (.iload_n 1, 1) := by decide +kernel
theorem dX12_span_55 : decode cX12_span 55 = .ok (.iconst 1, 1) := by decide +kernel
theorem dX12_span_56 : decode cX12_span 56 = .ok (.invokevirtual 359, 3) := by decide +kernel
theorem dX12_span_59 : decode cX12_span 59 = .ok (.istore 5, 2) := by decide +kernel
theorem dX12_span_61 : decode cX12_span 61 = .ok (.aload_n 0, 1) := by decide +kernel
theorem dX12_span_62 : decode cX12_span 62 = .ok (.iconst 2, 1) := by decide +kernel
theorem dX12_span_63 : decode cX12_span 63 = .ok (.invokevirtual 350, 3) := by decide +kernel
theorem dX12_span_66 : decode cX12_span 66 = .ok (.istore 6, 2) := by decide +kernel
theorem dX12_span_68 : decode cX12_span 68 = .ok (.aload_n 0, 1) := by decide +kernel
theorem dX12_span_69 : decode cX12_span 69 = .ok (.invokevirtual 187, 3) := by decide +kernel
theorem dX12_span_72 : decode cX12_span 72 = .ok (.iload_n 3, 1) := by decide +kernel
theorem dX12_span_73 : decode cX12_span 73 = .ok (.iconst (-1), 1) := by decide +kernel
theorem dX12_span_74 : decode cX12_span 74 = .ok (.if_icmp .ne 8, 3) := by decide +kernel
theorem dX12_span_77 : decode cX12_span 77 = .ok (.iload 6, 2) := by decide +kernel
theorem dX12_span_79 : decode cX12_span 79 = .ok (.goto 22, 3) := by decide +kernel
theorem dX12_span_82 : decode cX12_span 82 = .ok (.iload_n 2, 1) := by decide +kernel
theorem dX12_span_83 : decode cX12_span 83 = .ok (.ifCond .eq 12, 3) := by decide +kernel
theorem dX12_span_86 : decode cX12_span 86 = .ok (.iload_n 3, 1) := by decide +kernel
theorem dX12_span_87 : decode cX12_span 87 = .ok (.iload 6, 2) := by decide +kernel
theorem dX12_span_89 : decode cX12_span 89 = .ok (.invokestatic 273, 3) := by decide +kernel
theorem dX12_span_92 : decode cX12_span 92 = .ok (.goto 9, 3) := by decide +kernel
theorem dX12_span_95 : decode cX12_span 95 = .ok (.iload_n 3, 1) := by decide +kernel
theorem dX12_span_96 : decode cX12_span 96 = .ok (.iload 6, 2) := by decide +kernel
theorem dX12_span_98 : decode cX12_span 98 = .ok (.invokestatic 270, 3) := by decide +kernel
theorem dX12_span_101 : decode cX12_span 101 = .ok (.istore_n 3, 1) := by decide +kernel
theorem dX12_span_102 : decode cX12_span 102 = .ok (.iinc 4 1, 3) := by decide +kernel
theorem dX12_span_105 : decode cX12_span 105 = .ok (.goto (-68), 3) := by decide +kernel
theorem dX12_span_108 : decode cX12_span 108 = .ok (.iload_n 3, 1) := by decide +kernel
theorem dX12_span_109 : decode cX12_span 109 = .ok (.ireturn, 1) := by decide +kernel
theorem dX12_logged_0 : decode cX12_logged 0 = .ok (.aload_n 0, 1) := by decide +kernel
theorem dX12_logged_1 : decode cX12_logged 1 = .ok (.getfield 7, 3) := by decide +kernel
theorem dX12_logged_4 : decode cX12_logged 4 = .ok (.sipush 216, 3) := by decide +kernel
theorem dX12_logged_7 : decode cX12_logged 7 = .ok (.iconst 4, 1) := by decide +kernel
theorem dX12_logged_8 : decode cX12_logged 8 = .ok (.iload_n 1, 1) := by decide +kernel
theorem dX12_logged_9 : decode cX12_logged 9 = .ok (.imul, 1) := by decide +kernel
theorem dX12_logged_10 : decode cX12_logged 10 = .ok (.iadd, 1) := by decide +kernel
theorem dX12_logged_11 : decode cX12_logged 11 = .ok (.iload_n 2, 1) := by decide +kernel
theorem dX12_logged_12 : decode cX12_logged 12 = .ok (.iadd, 1) := by decide +kernel
theorem dX12_logged_13 : decode cX12_logged 13 = .ok (.iaload, 1) := by decide +kernel
theorem dX12_logged_14 : decode cX12_logged 14 = .ok (.ireturn, 1) := by decide +kernel
theorem dX12_led_0 : decode cX12_led 0 = .ok (.aload_n 0, 1) := by decide +kernel
theorem dX12_led_1 : decode cX12_led 1 = .ok (.aload_n 0, 1) := by decide +kernel
theorem dX12_led_2 : decode cX12_led 2 = .ok (.iload_n 1, 1) := by decide +kernel
theorem dX12_led_3 : decode cX12_led 3 = .ok (.invokevirtual 329, 3) := by decide +kernel
theorem dX12_led_6 : decode cX12_led 6 = .ok (.ifCond .ne 7, 3) := by decide +kernel
theorem dX12_led_9 : decode cX12_led 9 = .ok (.iconst 1, 1) := by decide +kernel
theorem dX12_led_10 : decode cX12_led 10 = .ok (.goto 4, 3) := by decide +kernel
theorem dX12_led_13 : decode cX12_led 13 = .ok (.iconst 0, 1) := by decide +kernel
theorem dX12_led_14 : decode cX12_led 14 = .ok (.putfield 57, 3) := by decide +kernel
theorem dX12_led_17 : decode cX12_led 17 = .ok (.aload_n 0, 1) := by decide +kernel
theorem dX12_led_18 : decode cX12_led 18 = .ok (.getfield 57, 3) := by decide +kernel
theorem dX12_led_21 : decode cX12_led 21 = .ok (.ifCond .le 5, 3) := by decide +kernel
theorem dX12_led_24 : decode cX12_led 24 = .ok (.iconst 0, 1) := by decide +kernel
theorem dX12_led_25 : decode cX12_led 25 = .ok (.ireturn, 1) := by decide +kernel
theorem dX12_led_26 : decode cX12_led 26 = .ok (.iconst 0, 1) := by decide +kernel
theorem dX12_led_27 : decode cX12_led 27 = .ok (.istore_n 3, 1) := by decide +kernel
theorem dX12_led_28 : decode cX12_led 28 = .ok (.iconst (-1), 1) := by decide +kernel
theorem dX12_led_29 : decode cX12_led 29 = .ok (.istore 4, 2) := by decide +kernel
theorem dX12_led_31 : decode cX12_led 31 = .ok (.aload_n 0, 1) := by decide +kernel
theorem dX12_led_32 : decode cX12_led 32 = .ok (.getfield 7, 3) := by decide +kernel
theorem dX12_led_35 : decode cX12_led 35 = .ok (.bipush 10, 2) := by decide +kernel
theorem dX12_led_37 : decode cX12_led 37 = .ok (.iaload, 1) := by decide +kernel
theorem dX12_led_38 : decode cX12_led 38 = .ok (.iconst 1, 1) := by decide +kernel
theorem dX12_led_39 : decode cX12_led 39 = .ok (.isub, 1) := by decide +kernel
theorem dX12_led_40 : decode cX12_led 40 = .ok (.istore 5, 2) := by decide +kernel
theorem dX12_led_42 : decode cX12_led 42 = .ok (.iload 5, 2) := by decide +kernel
theorem dX12_led_44 : decode cX12_led 44 = .ok (.ifCond .lt 35, 3) := by decide +kernel
theorem dX12_led_47 : decode cX12_led 47 = .ok (.aload_n 0, 1) := by decide +kernel
theorem dX12_led_48 : decode cX12_led 48 = .ok (.iload 5, 2) := by decide +kernel
theorem dX12_led_50 : decode cX12_led 50 = .ok (.iconst 1, 1) := by decide +kernel
theorem dX12_led_51 : decode cX12_led 51 = .ok (.invokevirtual 414, 3) := by decide +kernel
theorem dX12_led_54 : decode cX12_led 54 = .ok (.iload_n 1, 1) := by decide +kernel
theorem dX12_led_55 : decode cX12_led 55 = .ok (.if_icmp .eq 6, 3) := by decide +kernel
theorem dX12_led_58 : decode cX12_led 58 = .ok (.goto 15, 3) := by decide +kernel
theorem dX12_led_61 : decode cX12_led 61 = .ok (.iinc 3 1, 3) := by decide +kernel
theorem dX12_led_64 : decode cX12_led 64 = .ok (.aload_n 0, 1) := by decide +kernel
theorem dX12_led_65 : decode cX12_led 65 = .ok (.iload 5, 2) := by decide +kernel
theorem dX12_led_67 : decode cX12_led 67 = .ok (.iconst 0, 1) := by decide +kernel
theorem dX12_led_68 : decode cX12_led 68 = .ok (.invokevirtual 414, 3) := by decide +kernel
theorem dX12_led_71 : decode cX12_led 71 = .ok (.istore 4, 2) := by decide +kernel
theorem dX12_led_73 : decode cX12_led 73 = .ok (.iinc 5 (-1), 3) := by decide +kernel
theorem dX12_led_76 : decode cX12_led 76 = .ok (.goto (-34), 3) := by decide +kernel
theorem dX12_led_79 : decode cX12_led 79 = .ok (.iload_n 2, 1) := by decide +kernel
theorem dX12_led_80 : decode cX12_led 80 = .ok (.ifCond .eq 8, 3) := by decide +kernel
theorem dX12_led_83 : decode cX12_led 83 = .ok (.iload 4, 2) := by decide +kernel
theorem dX12_led_85 : decode cX12_led 85 = .ok (.goto 4, 3) := by decide +kernel
theorem dX12_led_88 : decode cX12_led 88 = .ok (.iload_n 3, 1) := by decide +kernel
theorem dX12_led_89 : decode cX12_led 89 = .ok (.ireturn, 1) := by decide +kernel
theorem dX12_log_0 : decode cX12_log 0 = .ok (.aload_n 0, 1) := by decide +kernel
theorem dX12_log_1 : decode cX12_log 1 = .ok (.iload_n 2, 1) := by decide +kernel
theorem dX12_log_2 : decode cX12_log 2 = .ok (.iconst 0, 1) := by decide +kernel
theorem dX12_log_3 : decode cX12_log 3 = .ok (.iconst 3, 1) := by decide +kernel
theorem dX12_log_4 : decode cX12_log 4 = .ok (.invokestatic 60, 3) := by decide +kernel
theorem dX12_log_7 : decode cX12_log 7 = .ok (.ifCond .ne 7, 3) := by decide +kernel
theorem dX12_log_10 : decode cX12_log 10 = .ok (.iconst 1, 1) := by decide +kernel
theorem dX12_log_11 : decode cX12_log 11 = .ok (.goto 4, 3) := by decide +kernel
theorem dX12_log_14 : decode cX12_log 14 = .ok (.iconst 0, 1) := by decide +kernel
theorem dX12_log_15 : decode cX12_log 15 = .ok (.putfield 57, 3) := by decide +kernel
theorem dX12_log_18 : decode cX12_log 18 = .ok (.aload_n 0, 1) := by decide +kernel
theorem dX12_log_19 : decode cX12_log 19 = .ok (.getfield 57, 3) := by decide +kernel
theorem dX12_log_22 : decode cX12_log 22 = .ok (.ifCond .le 5, 3) := by decide +kernel
theorem dX12_log_25 : decode cX12_log 25 = .ok (.iconst 0, 1) := by decide +kernel
theorem dX12_log_26 : decode cX12_log 26 = .ok (.ireturn, 1) := by decide +kernel
theorem dX12_log_27 : decode cX12_log 27 = .ok (.iload_n 1, 1) := by decide +kernel
theorem dX12_log_28 : decode cX12_log 28 = .ok (.iconst 0, 1) := by decide +kernel
theorem dX12_log_29 : decode cX12_log 29 = .ok (.aload_n 0, 1) := by decide +kernel
theorem dX12_log_30 : decode cX12_log 30 = .ok (.getfield 7, 3) := by decide +kernel
theorem dX12_log_33 : decode cX12_log 33 = .ok (.bipush 10, 2) := by decide +kernel
theorem dX12_log_35 : decode cX12_log 35 = .ok (.iaload, 1) := by decide +kernel
theorem dX12_log_36 : decode cX12_log 36 = .ok (.iconst 1, 1) := by decide +kernel
theorem dX12_log_37 : decode cX12_log 37 = .ok (.isub, 1) := by decide +kernel
theorem dX12_log_38 : decode cX12_log 38 = .ok (.invokestatic 60, 3) := by decide +kernel
theorem dX12_log_41 : decode cX12_log 41 = .ok (.ifCond .eq 12, 3) := by decide +kernel
theorem dX12_log_44 : decode cX12_log 44 = .ok (.aload_n 0, 1) := by decide +kernel
theorem dX12_log_45 : decode cX12_log 45 = .ok (.iload_n 1, 1) := by decide +kernel
theorem dX12_log_46 : decode cX12_log 46 = .ok (.iload_n 2, 1) := by decide +kernel
theorem dX12_log_47 : decode cX12_log 47 = .ok (.invokevirtual 414, 3) := by decide +kernel
theorem dX12_log_50 : decode cX12_log 50 = .ok (.goto 4, 3) := by decide +kernel
theorem dX12_log_53 : decode cX12_log 53 = .ok (.iconst (-1), 1) := by decide +kernel
theorem dX12_log_54 : decode cX12_log 54 = .ok (.ireturn, 1) := by decide +kernel
theorem dX12_seed_0 : decode cX12_seed 0 = .ok (.aload_n 0, 1) := by decide +kernel
theorem dX12_seed_1 : decode cX12_seed 1 = .ok (.iconst 0, 1) := by decide +kernel
theorem dX12_seed_2 : decode cX12_seed 2 = .ok (.putfield 57, 3) := by decide +kernel
theorem dX12_seed_5 : decode cX12_seed 5 = .ok (.aload_n 0, 1) := by decide +kernel
theorem dX12_seed_6 : decode cX12_seed 6 = .ok (.getfield 7, 3) := by decide +kernel
theorem dX12_seed_9 : decode cX12_seed 9 = .ok (.bipush 11, 2) := by decide +kernel
theorem dX12_seed_11 : decode cX12_seed 11 = .ok (.iaload, 1) := by decide +kernel
theorem dX12_seed_12 : decode cX12_seed 12 = .ok (.istore_n 2, 1) := by decide +kernel
theorem dX12_seed_13 : decode cX12_seed 13 = .ok (.aload_n 0, 1) := by decide +kernel
theorem dX12_seed_14 : decode cX12_seed 14 = .ok (.getfield 7, 3) := by decide +kernel
theorem dX12_seed_17 : decode cX12_seed 17 = .ok (.bipush 11, 2) := by decide +kernel
theorem dX12_seed_19 : decode cX12_seed 19 = .ok (.iload_n 1, 1) := by decide +kernel
theorem dX12_seed_20 : decode cX12_seed 20 = .ok (.iastore, 1) := by decide +kernel
theorem dX12_seed_21 : decode cX12_seed 21 = .ok (.iload_n 2, 1) := by decide +kernel
theorem dX12_seed_22 : decode cX12_seed 22 = .ok (.ireturn, 1) := by decide +kernel
theorem dX12_undo_0 : decode cX12_undo 0 = .ok (.aload_n 0, 1) := by decide +kernel
theorem dX12_undo_1 : decode cX12_undo 1 = .ok (.iconst 0, 1) := by decide +kernel
theorem dX12_undo_2 : decode cX12_undo 2 = .ok (.putfield 57, 3) := by decide +kernel
theorem dX12_undo_5 : decode cX12_undo 5 = .ok (.aload_n 0, 1) := by decide +kernel
theorem dX12_undo_6 : decode cX12_undo 6 = .ok (.getfield 190, 3) := by decide +kernel
theorem dX12_undo_9 : decode cX12_undo 9 = .ok (.ifCond .ne 5, 3) := by decide +kernel
theorem dX12_undo_12 : decode cX12_undo 12 = .ok (.iconst 0, 1) := by decide +kernel
theorem dX12_undo_13 : decode cX12_undo 13 = .ok (.ireturn, 1) := by decide +kernel
theorem dX12_undo_14 : decode cX12_undo 14 = .ok (.aload_n 0, 1) := by decide +kernel
theorem dX12_undo_15 : decode cX12_undo 15 = .ok (.dup, 1) := by decide +kernel
theorem dX12_undo_16 : decode cX12_undo 16 = .ok (.getfield 190, 3) := by decide +kernel
theorem dX12_undo_19 : decode cX12_undo 19 = .ok (.iconst 1, 1) := by decide +kernel
theorem dX12_undo_20 : decode cX12_undo 20 = .ok (.isub, 1) := by decide +kernel
theorem dX12_undo_21 : decode cX12_undo 21 = .ok (.putfield 190, 3) := by decide +kernel
theorem dX12_undo_24 : decode cX12_undo 24 = .ok (.iconst 0, 1) := by decide +kernel
theorem dX12_undo_25 : decode cX12_undo 25 = .ok (.istore_n 1, 1) := by decide +kernel
theorem dX12_undo_26 : decode cX12_undo 26 = .ok (.iload_n 1, 1) := by decide +kernel
theorem dX12_undo_27 : decode cX12_undo 27 = .ok (.sipush 456, 3) := by decide +kernel
theorem dX12_undo_30 : decode cX12_undo 30 = .ok (.if_icmp .ge 30, 3) := by decide +kernel
theorem dX12_undo_33 : decode cX12_undo 33 = .ok (.aload_n 0, 1) := by decide +kernel
theorem dX12_undo_34 : decode cX12_undo 34 = .ok (.getfield 7, 3) := by decide +kernel
theorem dX12_undo_37 : decode cX12_undo 37 = .ok (.iload_n 1, 1) := by decide +kernel
theorem dX12_undo_38 : decode cX12_undo 38 = .ok (.aload_n 0, 1) := by decide +kernel
theorem dX12_undo_39 : decode cX12_undo 39 = .ok (.getfield 19, 3) := by decide +kernel
theorem dX12_undo_42 : decode cX12_undo 42 = .ok (.sipush 456, 3) := by decide +kernel
theorem dX12_undo_45 : decode cX12_undo 45 = .ok (.aload_n 0, 1) := by decide +kernel
theorem dX12_undo_46 : decode cX12_undo 46 = .ok (.getfield 190, 3) := by decide +kernel
theorem dX12_undo_49 : decode cX12_undo 49 = .ok (.imul, 1) := by decide +kernel
theorem dX12_undo_50 : decode cX12_undo 50 = .ok (.iload_n 1, 1) := by decide +kernel
theorem dX12_undo_51 : decode cX12_undo 51 = .ok (.iadd, 1) := by decide +kernel
theorem dX12_undo_52 : decode cX12_undo 52 = .ok (.iaload, 1) := by decide +kernel
theorem dX12_undo_53 : decode cX12_undo 53 = .ok (.iastore, 1) := by decide +kernel
theorem dX12_undo_54 : decode cX12_undo 54 = .ok (.iinc 1 1, 3) := by decide +kernel
theorem dX12_undo_57 : decode cX12_undo 57 = .ok (.goto (-31), 3) := by decide +kernel
theorem dX12_undo_60 : decode cX12_undo 60 = .ok (.iconst 1, 1) := by decide +kernel
theorem dX12_undo_61 : decode cX12_undo 61 = .ok (.ireturn, 1) := by decide +kernel
theorem dX12_image_0 : decode cX12_image 0 = .ok (.aload_n 0, 1) := by decide +kernel
theorem dX12_image_1 : decode cX12_image 1 = .ok (.iconst 0, 1) := by decide +kernel
theorem dX12_image_2 : decode cX12_image 2 = .ok (.putfield 57, 3) := by decide +kernel
theorem dX12_image_5 : decode cX12_image 5 = .ok (.iconst 0, 1) := by decide +kernel
theorem dX12_image_6 : decode cX12_image 6 = .ok (.istore_n 1, 1) := by decide +kernel
theorem dX12_image_7 : decode cX12_image 7 = .ok (.iload_n 1, 1) := by decide +kernel
theorem dX12_image_8 : decode cX12_image 8 = .ok (.sipush 856, 3) := by decide +kernel
theorem dX12_image_11 : decode cX12_image 11 = .ok (.if_icmp .ge 21, 3) := by decide +kernel
theorem dX12_image_14 : decode cX12_image 14 = .ok (.aload_n 0, 1) := by decide +kernel
theorem dX12_image_15 : decode cX12_image 15 = .ok (.getfield 13, 3) := by decide +kernel
theorem dX12_image_18 : decode cX12_image 18 = .ok (.iload_n 1, 1) := by decide +kernel
theorem dX12_image_19 : decode cX12_image 19 = .ok (.aload_n 0, 1) := by decide +kernel
theorem dX12_image_20 : decode cX12_image 20 = .ok (.getfield 7, 3) := by decide +kernel
theorem dX12_image_23 : decode cX12_image 23 = .ok (.iload_n 1, 1) := by decide +kernel
theorem dX12_image_24 : decode cX12_image 24 = .ok (.iaload, 1) := by decide +kernel
theorem dX12_image_25 : decode cX12_image 25 = .ok (.iastore, 1) := by decide +kernel
theorem dX12_image_26 : decode cX12_image 26 = .ok (.iinc 1 1, 3) := by decide +kernel
theorem dX12_image_29 : decode cX12_image 29 = .ok (.goto (-22), 3) := by decide +kernel
theorem dX12_image_32 : decode cX12_image 32 = .ok (.aload_n 0, 1) := by decide +kernel
theorem dX12_image_33 : decode cX12_image 33 = .ok (.iconst 1, 1) := by decide +kernel
theorem dX12_image_34 : decode cX12_image 34 = .ok (.putfield 417, 3) := by decide +kernel
theorem dX12_image_37 : decode cX12_image 37 = .ok (.return_, 1) := by decide +kernel
theorem dX12_back_0 : decode cX12_back 0 = .ok (.aload_n 0, 1) := by decide +kernel
theorem dX12_back_1 : decode cX12_back 1 = .ok (.iconst 0, 1) := by decide +kernel
theorem dX12_back_2 : decode cX12_back 2 = .ok (.putfield 57, 3) := by decide +kernel
theorem dX12_back_5 : decode cX12_back 5 = .ok (.aload_n 0, 1) := by decide +kernel
theorem dX12_back_6 : decode cX12_back 6 = .ok (.getfield 417, 3) := by decide +kernel
theorem dX12_back_9 : decode cX12_back 9 = .ok (.ifCond .ne 5, 3) := by decide +kernel
theorem dX12_back_12 : decode cX12_back 12 = .ok (.iconst 0, 1) := by decide +kernel
theorem dX12_back_13 : decode cX12_back 13 = .ok (.ireturn, 1) := by decide +kernel
theorem dX12_back_14 : decode cX12_back 14 = .ok (.iconst 0, 1) := by decide +kernel
theorem dX12_back_15 : decode cX12_back 15 = .ok (.istore_n 1, 1) := by decide +kernel
theorem dX12_back_16 : decode cX12_back 16 = .ok (.iload_n 1, 1) := by decide +kernel
theorem dX12_back_17 : decode cX12_back 17 = .ok (.sipush 856, 3) := by decide +kernel
theorem dX12_back_20 : decode cX12_back 20 = .ok (.if_icmp .ge 21, 3) := by decide +kernel
theorem dX12_back_23 : decode cX12_back 23 = .ok (.aload_n 0, 1) := by decide +kernel
theorem dX12_back_24 : decode cX12_back 24 = .ok (.getfield 7, 3) := by decide +kernel
theorem dX12_back_27 : decode cX12_back 27 = .ok (.iload_n 1, 1) := by decide +kernel
theorem dX12_back_28 : decode cX12_back 28 = .ok (.aload_n 0, 1) := by decide +kernel
theorem dX12_back_29 : decode cX12_back 29 = .ok (.getfield 13, 3) := by decide +kernel
theorem dX12_back_32 : decode cX12_back 32 = .ok (.iload_n 1, 1) := by decide +kernel
theorem dX12_back_33 : decode cX12_back 33 = .ok (.iaload, 1) := by decide +kernel
theorem dX12_back_34 : decode cX12_back 34 = .ok (.iastore, 1) := by decide +kernel
theorem dX12_back_35 : decode cX12_back 35 = .ok (.iinc 1 1, 3) := by decide +kernel
theorem dX12_back_38 : decode cX12_back 38 = .ok (.goto (-22), 3) := by decide +kernel
theorem dX12_back_41 : decode cX12_back 41 = .ok (.aload_n 0, 1) := by decide +kernel
theorem dX12_back_42 : decode cX12_back 42 = .ok (.iconst 0, 1) := by decide +kernel
theorem dX12_back_43 : decode cX12_back 43 = .ok (.putfield 190, 3) := by decide +kernel
theorem dX12_back_46 : decode cX12_back 46 = .ok (.iconst 1, 1) := by decide +kernel
theorem dX12_back_47 : decode cX12_back 47 = .ok (.ireturn, 1) := by decide +kernel
theorem dX12_count_0 : decode cX12_count 0 = .ok (.aload_n 0, 1) := by decide +kernel
theorem dX12_count_1 : decode cX12_count 1 = .ok (.iconst 0, 1) := by decide +kernel
theorem dX12_count_2 : decode cX12_count 2 = .ok (.putfield 57, 3) := by decide +kernel
theorem dX12_count_5 : decode cX12_count 5 = .ok (.iload_n 1, 1) := by decide +kernel
theorem dX12_count_6 : decode cX12_count 6 = .ok (.ifCond .ne 10, 3) := by decide +kernel
theorem dX12_count_9 : decode cX12_count 9 = .ok (.aload_n 0, 1) := by decide +kernel
theorem dX12_count_10 : decode cX12_count 10 = .ok (.getfield 7, 3) := by decide +kernel
theorem dX12_count_13 : decode cX12_count 13 = .ok (.iconst 3, 1) := by decide +kernel
theorem dX12_count_14 : decode cX12_count 14 = .ok (.iaload, 1) := by decide +kernel
theorem dX12_count_15 : decode cX12_count 15 = .ok (.ireturn, 1) := by decide +kernel
theorem dX12_count_16 : decode cX12_count 16 = .ok (.iload_n 1, 1) := by decide +kernel
theorem dX12_count_17 : decode cX12_count 17 = .ok (.iconst 1, 1) := by decide +kernel
theorem dX12_count_18 : decode cX12_count 18 = .ok (.if_icmp .ne 10, 3) := by decide +kernel
theorem dX12_count_21 : decode cX12_count 21 = .ok (.aload_n 0, 1) := by decide +kernel
theorem dX12_count_22 : decode cX12_count 22 = .ok (.getfield 7, 3) := by decide +kernel
theorem dX12_count_25 : decode cX12_count 25 = .ok (.iconst 4, 1) := by decide +kernel
theorem dX12_count_26 : decode cX12_count 26 = .ok (.iaload, 1) := by decide +kernel
theorem dX12_count_27 : decode cX12_count 27 = .ok (.ireturn, 1) := by decide +kernel
theorem dX12_count_28 : decode cX12_count 28 = .ok (.iload_n 1, 1) := by decide +kernel
theorem dX12_count_29 : decode cX12_count 29 = .ok (.iconst 2, 1) := by decide +kernel
theorem dX12_count_30 : decode cX12_count 30 = .ok (.if_icmp .ne 10, 3) := by decide +kernel
theorem dX12_count_33 : decode cX12_count 33 = .ok (.aload_n 0, 1) := by decide +kernel
theorem dX12_count_34 : decode cX12_count 34 = .ok (.getfield 7, 3) := by decide +kernel
theorem dX12_count_37 : decode cX12_count 37 = .ok (.iconst 0, 1) := by decide +kernel
theorem dX12_count_38 : decode cX12_count 38 = .ok (.iaload, 1) := by decide +kernel
theorem dX12_count_39 : decode cX12_count 39 = .ok (.ireturn, 1) := by decide +kernel
theorem dX12_count_40 : decode cX12_count 40 = .ok (.iload_n 1, 1) := by decide +kernel
theorem dX12_count_41 : decode cX12_count 41 = .ok (.iconst 3, 1) := by decide +kernel
theorem dX12_count_42 : decode cX12_count 42 = .ok (.if_icmp .ne 10, 3) := by decide +kernel
theorem dX12_count_45 : decode cX12_count 45 = .ok (.aload_n 0, 1) := by decide +kernel
theorem dX12_count_46 : decode cX12_count 46 = .ok (.getfield 7, 3) := by decide +kernel
theorem dX12_count_49 : decode cX12_count 49 = .ok (.iconst 1, 1) := by decide +kernel
theorem dX12_count_50 : decode cX12_count 50 = .ok (.iaload, 1) := by decide +kernel
theorem dX12_count_51 : decode cX12_count 51 = .ok (.ireturn, 1) := by decide +kernel
theorem dX12_count_52 : decode cX12_count 52 = .ok (.iload_n 1, 1) := by decide +kernel
theorem dX12_count_53 : decode cX12_count 53 = .ok (.iconst 4, 1) := by decide +kernel
theorem dX12_count_54 : decode cX12_count 54 = .ok (.bipush 8, 2) := by decide +kernel
theorem dX12_count_56 : decode cX12_count 56 = .ok (.invokestatic 60, 3) := by decide +kernel
theorem dX12_count_59 : decode cX12_count 59 = .ok (.ifCond .eq 14, 3) := by decide +kernel
theorem dX12_count_62 : decode cX12_count 62 = .ok (.aload_n 0, 1) := by decide +kernel
theorem dX12_count_63 : decode cX12_count 63 = .ok (.getfield 7, 3) := by decide +kernel
theorem dX12_count_66 : decode cX12_count 66 = .ok (.iconst 5, 1) := by decide +kernel
theorem dX12_count_67 : decode cX12_count 67 = .ok (.iload_n 1, 1) := by decide +kernel
theorem dX12_count_68 : decode cX12_count 68 = .ok (.iadd, 1) := by decide +kernel
theorem dX12_count_69 : decode cX12_count 69 = .ok (.iconst 4, 1) := by decide +kernel
theorem dX12_count_70 : decode cX12_count 70 = .ok (.isub, 1) := by decide +kernel
theorem dX12_count_71 : decode cX12_count 71 = .ok (.iaload, 1) := by decide +kernel
theorem dX12_count_72 : decode cX12_count 72 = .ok (.ireturn, 1) := by decide +kernel
theorem dX12_count_73 : decode cX12_count 73 = .ok (.iload_n 1, 1) := by decide +kernel
theorem dX12_count_74 : decode cX12_count 74 = .ok (.bipush 9, 2) := by decide +kernel
theorem dX12_count_76 : decode cX12_count 76 = .ok (.if_icmp .ne 8, 3) := by decide +kernel
theorem dX12_count_79 : decode cX12_count 79 = .ok (.aload_n 0, 1) := by decide +kernel
theorem dX12_count_80 : decode cX12_count 80 = .ok (.invokevirtual 411, 3) := by decide +kernel
theorem dX12_count_83 : decode cX12_count 83 = .ok (.ireturn, 1) := by decide +kernel
theorem dX12_count_84 : decode cX12_count 84 = .ok (.iload_n 1, 1) := by decide +kernel
theorem dX12_count_85 : decode cX12_count 85 = .ok (.bipush 10, 2) := by decide +kernel
theorem dX12_count_87 : decode cX12_count 87 = .ok (.if_icmp .ne 11, 3) := by decide +kernel
theorem dX12_count_90 : decode cX12_count 90 = .ok (.aload_n 0, 1) := by decide +kernel
theorem dX12_count_91 : decode cX12_count 91 = .ok (.getfield 7, 3) := by decide +kernel
theorem dX12_count_94 : decode cX12_count 94 = .ok (.bipush 10, 2) := by decide +kernel
theorem dX12_count_96 : decode cX12_count 96 = .ok (.iaload, 1) := by decide +kernel
theorem dX12_count_97 : decode cX12_count 97 = .ok (.ireturn, 1) := by decide +kernel
theorem dX12_count_98 : decode cX12_count 98 = .ok (.iload_n 1, 1) := by decide +kernel
theorem dX12_count_99 : decode cX12_count 99 = .ok (.bipush 11, 2) := by decide +kernel
theorem dX12_count_101 : decode cX12_count 101 = .ok (.if_icmp .ne 10, 3) := by decide +kernel
theorem dX12_count_104 : decode cX12_count 104 = .ok (.aload_n 0, 1) := by decide +kernel
theorem dX12_count_105 : decode cX12_count 105 = .ok (.getfield 190, 3) := by decide +kernel
theorem dX12_count_108 : decode cX12_count 108 = .ok (.goto 4, 3) := by decide +kernel
theorem dX12_count_111 : decode cX12_count 111 = .ok (.iconst (-1), 1) := by decide +kernel
theorem dX12_count_112 : decode cX12_count 112 = .ok (.ireturn, 1) := by decide +kernel
