/-! ===== decode rows of the class ===== -/
theorem dX0_init_0 : decode cX0_init 0 = .ok (.aload_n 0, 1) := by decide +kernel
theorem dX0_init_1 : decode cX0_init 1 = .ok (.invokespecial 3, 3) := by decide +kernel
theorem dX0_init_4 : decode cX0_init 4 = .ok (.aload_n 0, 1) := by decide +kernel
theorem dX0_init_5 : decode cX0_init 5 = .ok (.bipush 9, 2) := by decide +kernel
theorem dX0_init_7 : decode cX0_init 7 = .ok (.newarray .int, 2) := by decide +kernel
theorem dX0_init_9 : decode cX0_init 9 = .ok (.putfield 11, 3) := by decide +kernel
theorem dX0_init_12 : decode cX0_init 12 = .ok (.aload_n 0, 1) := by decide +kernel
theorem dX0_init_13 : decode cX0_init 13 = .ok (.aload_n 1, 1) := by decide +kernel
theorem dX0_init_14 : decode cX0_init 14 = .ok (.putfield 17, 3) := by decide +kernel
theorem dX0_init_17 : decode cX0_init 17 = .ok (.return_, 1) := by decide +kernel
theorem dX0_pass_0 : decode cX0_pass 0 = .ok (.iconst 0, 1) := by decide +kernel
theorem dX0_pass_1 : decode cX0_pass 1 = .ok (.istore 4, 2) := by decide +kernel
theorem dX0_pass_3 : decode cX0_pass 3 = .ok (.iconst 0, 1) := by decide +kernel
theorem dX0_pass_4 : decode cX0_pass 4 = .ok (.istore 5, 2) := by decide +kernel
theorem dX0_pass_6 : decode cX0_pass 6 = .ok (.iload 5, 2) := by decide +kernel
theorem dX0_pass_8 : decode cX0_pass 8 = .ok (.iload_n 2, 1) := by decide +kernel
theorem dX0_pass_9 : decode cX0_pass 9 = .ok (.if_icmp .ge 53, 3) := by decide +kernel
theorem dX0_pass_12 : decode cX0_pass 12 = .ok (.aload_n 1, 1) := by decide +kernel
theorem dX0_pass_13 : decode cX0_pass 13 = .ok (.getfield 21, 3) := by decide +kernel
theorem dX0_pass_16 : decode cX0_pass 16 = .ok (.aload_n 1, 1) := by decide +kernel
theorem dX0_pass_17 : decode cX0_pass 17 = .ok (.getfield 27, 3) := by decide +kernel
theorem dX0_pass_20 : decode cX0_pass 20 = .ok (.if_icmp .ge 15, 3) := by decide +kernel
theorem dX0_pass_23 : decode cX0_pass 23 = .ok (.aload_n 0, 1) := by decide +kernel
theorem dX0_pass_24 : decode cX0_pass 24 = .ok (.aload_n 1, 1) := by decide +kernel
theorem dX0_pass_25 : decode cX0_pass 25 = .ok (.iload_n 3, 1) := by decide +kernel
theorem dX0_pass_26 : decode cX0_pass 26 = .ok (.invokevirtual 30, 3) := by decide +kernel
theorem dX0_pass_29 : decode cX0_pass 29 = .ok (.iinc 4 1, 3) := by decide +kernel
theorem dX0_pass_32 : decode cX0_pass 32 = .ok (.goto 8, 3) := by decide +kernel
theorem dX0_pass_35 : decode cX0_pass 35 = .ok (.aload_n 0, 1) := by decide +kernel
theorem dX0_pass_36 : decode cX0_pass 36 = .ok (.aload_n 1, 1) := by decide +kernel
theorem dX0_pass_37 : decode cX0_pass 37 = .ok (.invokevirtual 34, 3) := by decide +kernel
theorem dX0_pass_40 : decode cX0_pass 40 = .ok (.aload_n 1, 1) := by decide +kernel
theorem dX0_pass_41 : decode cX0_pass 41 = .ok (.aload_n 1, 1) := by decide +kernel
theorem dX0_pass_42 : decode cX0_pass 42 = .ok (.getfield 38, 3) := by decide +kernel
theorem dX0_pass_45 : decode cX0_pass 45 = .ok (.iconst 1, 1) := by decide +kernel
theorem dX0_pass_46 : decode cX0_pass 46 = .ok (.iadd, 1) := by decide +kernel
theorem dX0_pass_47 : decode cX0_pass 47 = .ok (.sipush 9999, 3) := by decide +kernel
theorem dX0_pass_50 : decode cX0_pass 50 = .ok (.invokestatic 41, 3) := by decide +kernel
theorem dX0_pass_53 : decode cX0_pass 53 = .ok (.putfield 38, 3) := by decide +kernel
theorem dX0_pass_56 : decode cX0_pass 56 = .ok (.iinc 5 1, 3) := by decide +kernel
theorem dX0_pass_59 : decode cX0_pass 59 = .ok (.goto (-53), 3) := by decide +kernel
theorem dX0_pass_62 : decode cX0_pass 62 = .ok (.iload 4, 2) := by decide +kernel
theorem dX0_pass_64 : decode cX0_pass 64 = .ok (.ireturn, 1) := by decide +kernel
theorem dX0_sayNext_0 : decode cX0_sayNext 0 = .ok (.aload_n 1, 1) := by decide +kernel
theorem dX0_sayNext_1 : decode cX0_sayNext 1 = .ok (.getfield 47, 3) := by decide +kernel
theorem dX0_sayNext_4 : decode cX0_sayNext 4 = .ok (.aload_n 1, 1) := by decide +kernel
theorem dX0_sayNext_5 : decode cX0_sayNext 5 = .ok (.getfield 21, 3) := by decide +kernel
theorem dX0_sayNext_8 : decode cX0_sayNext 8 = .ok (.iaload, 1) := by decide +kernel
theorem dX0_sayNext_9 : decode cX0_sayNext 9 = .ok (.istore_n 3, 1) := by decide +kernel
theorem dX0_sayNext_10 : decode cX0_sayNext 10 = .ok (.iconst 0, 1) := by decide +kernel
theorem dX0_sayNext_11 : decode cX0_sayNext 11 = .ok (.istore 4, 2) := by decide +kernel
theorem dX0_sayNext_13 : decode cX0_sayNext 13 = .ok (.iload 4, 2) := by decide +kernel
theorem dX0_sayNext_15 : decode cX0_sayNext 15 = .ok (.aload_n 1, 1) := by decide +kernel
theorem dX0_sayNext_16 : decode cX0_sayNext 16 = .ok (.getfield 50, 3) := by decide +kernel
theorem dX0_sayNext_19 : decode cX0_sayNext 19 = .ok (.if_icmp .ge 146, 3) := by decide +kernel
theorem dX0_sayNext_22 : decode cX0_sayNext 22 = .ok (.aload_n 0, 1) := by decide +kernel
theorem dX0_sayNext_23 : decode cX0_sayNext 23 = .ok (.aload_n 1, 1) := by decide +kernel
theorem dX0_sayNext_24 : decode cX0_sayNext 24 = .ok (.iload 4, 2) := by decide +kernel
theorem dX0_sayNext_26 : decode cX0_sayNext 26 = .ok (.iload_n 3, 1) := by decide +kernel
theorem dX0_sayNext_27 : decode cX0_sayNext 27 = .ok (.invokevirtual 53, 3) := by decide +kernel
theorem dX0_sayNext_30 : decode cX0_sayNext 30 = .ok (.iconst 0, 1) := by decide +kernel
theorem dX0_sayNext_31 : decode cX0_sayNext 31 = .ok (.istore 5, 2) := by decide +kernel
theorem dX0_sayNext_33 : decode cX0_sayNext 33 = .ok (.aload_n 0, 1) := by decide +kernel
theorem dX0_sayNext_34 : decode cX0_sayNext 34 = .ok (.aload_n 1, 1) := by decide +kernel
theorem dX0_sayNext_35 : decode cX0_sayNext 35 = .ok (.invokevirtual 57, 3) := by decide +kernel
theorem dX0_sayNext_38 : decode cX0_sayNext 38 = .ok (.ifCond .eq 81, 3) := by decide +kernel
theorem dX0_sayNext_41 : decode cX0_sayNext 41 = .ok (.iload_n 2, 1) := by decide +kernel
theorem dX0_sayNext_42 : decode cX0_sayNext 42 = .ok (.ifCond .eq 22, 3) := by decide +kernel
theorem dX0_sayNext_45 : decode cX0_sayNext 45 = .ok (.aload_n 1, 1) := by decide +kernel
theorem dX0_sayNext_46 : decode cX0_sayNext 46 = .ok (.invokevirtual 61, 3) := by decide +kernel
theorem dX0_sayNext_49 : decode cX0_sayNext 49 = .ok (.bipush 100, 2) := by decide +kernel
theorem dX0_sayNext_51 : decode cX0_sayNext 51 = .ok (.irem, 1) := by decide +kernel
theorem dX0_sayNext_52 : decode cX0_sayNext 52 = .ok (.aload_n 0, 1) := by decide +kernel
theorem dX0_sayNext_53 : decode cX0_sayNext 53 = .ok (.aload_n 1, 1) := by decide +kernel
theorem dX0_sayNext_54 : decode cX0_sayNext 54 = .ok (.invokevirtual 65, 3) := by decide +kernel
theorem dX0_sayNext_57 : decode cX0_sayNext 57 = .ok (.if_icmp .ge 7, 3) := by decide +kernel
theorem dX0_sayNext_60 : decode cX0_sayNext 60 = .ok (.iconst 1, 1) := by decide +kernel
theorem dX0_sayNext_61 : decode cX0_sayNext 61 = .ok (.goto 4, 3) := by decide +kernel
theorem dX0_sayNext_64 : decode cX0_sayNext 64 = .ok (.iconst 0, 1) := by decide +kernel
theorem dX0_sayNext_65 : decode cX0_sayNext 65 = .ok (.istore 6, 2) := by decide +kernel
theorem dX0_sayNext_67 : decode cX0_sayNext 67 = .ok (.iload 6, 2) := by decide +kernel
theorem dX0_sayNext_69 : decode cX0_sayNext 69 = .ok (.ifCond .eq 7, 3) := by decide +kernel
theorem dX0_sayNext_72 : decode cX0_sayNext 72 = .ok (.iconst 2, 1) := by decide +kernel
theorem dX0_sayNext_73 : decode cX0_sayNext 73 = .ok (.goto 4, 3) := by decide +kernel
theorem dX0_sayNext_76 : decode cX0_sayNext 76 = .ok (.iconst 1, 1) := by decide +kernel
theorem dX0_sayNext_77 : decode cX0_sayNext 77 = .ok (.istore 5, 2) := by decide +kernel
theorem dX0_sayNext_79 : decode cX0_sayNext 79 = .ok (.aload_n 1, 1) := by decide +kernel
theorem dX0_sayNext_80 : decode cX0_sayNext 80 = .ok (.getfield 69, 3) := by decide +kernel
theorem dX0_sayNext_83 : decode cX0_sayNext 83 = .ok (.iload 4, 2) := by decide +kernel
theorem dX0_sayNext_85 : decode cX0_sayNext 85 = .ok (.iaload, 1) := by decide +kernel
theorem dX0_sayNext_86 : decode cX0_sayNext 86 = .ok (.aload_n 0, 1) := by decide +kernel
theorem dX0_sayNext_87 : decode cX0_sayNext 87 = .ok (.getfield 11, 3) := by decide +kernel
theorem dX0_sayNext_90 : decode cX0_sayNext 90 = .ok (.iconst 2, 1) := by decide +kernel
theorem dX0_sayNext_91 : decode cX0_sayNext 91 = .ok (.iaload, 1) := by decide +kernel
theorem dX0_sayNext_92 : decode cX0_sayNext 92 = .ok (.iadd, 1) := by decide +kernel
theorem dX0_sayNext_93 : decode cX0_sayNext 93 = .ok (.aload_n 0, 1) := by decide +kernel
theorem dX0_sayNext_94 : decode cX0_sayNext 94 = .ok (.aload_n 1, 1) := by decide +kernel
theorem dX0_sayNext_95 : decode cX0_sayNext 95 = .ok (.iconst 0, 1) := by decide +kernel
theorem dX0_sayNext_96 : decode cX0_sayNext 96 = .ok (.invokevirtual 72, 3) := by decide +kernel
theorem dX0_sayNext_99 : decode cX0_sayNext 99 = .ok (.iadd, 1) := by decide +kernel
theorem dX0_sayNext_100 : decode cX0_sayNext 100 = .ok (.istore 7, 2) := by decide +kernel
theorem dX0_sayNext_102 : decode cX0_sayNext 102 = .ok (.aload_n 1, 1) := by decide +kernel
theorem dX0_sayNext_103 : decode cX0_sayNext 103 = .ok (.getfield 69, 3) := by decide +kernel
theorem dX0_sayNext_106 : decode cX0_sayNext 106 = .ok (.iload 4, 2) := by decide +kernel
theorem dX0_sayNext_108 : decode cX0_sayNext 108 = .ok (.iload 7, 2) := by decide +kernel
theorem dX0_sayNext_110 : decode cX0_sayNext 110 = .ok (.bipush 99, 2) := by decide +kernel
theorem dX0_sayNext_112 : decode cX0_sayNext 112 = .ok (.invokestatic 41, 3) := by decide +kernel
theorem dX0_sayNext_115 : decode cX0_sayNext 115 = .ok (.iastore, 1) := by decide +kernel
theorem dX0_sayNext_116 : decode cX0_sayNext 116 = .ok (.goto 10, 3) := by decide +kernel
theorem dX0_sayNext_119 : decode cX0_sayNext 119 = .ok (.aload_n 0, 1) := by decide +kernel
theorem dX0_sayNext_120 : decode cX0_sayNext 120 = .ok (.aload_n 1, 1) := by decide +kernel
theorem dX0_sayNext_121 : decode cX0_sayNext 121 = .ok (.iload 4, 2) := by decide +kernel
theorem dX0_sayNext_123 : decode cX0_sayNext 123 = .ok (.invokevirtual 76, 3) := by decide +kernel
theorem dX0_sayNext_126 : decode cX0_sayNext 126 = .ok (.aload_n 1, 1) := by decide +kernel
theorem dX0_sayNext_127 : decode cX0_sayNext 127 = .ok (.getfield 80, 3) := by decide +kernel
theorem dX0_sayNext_130 : decode cX0_sayNext 130 = .ok (.iload 4, 2) := by decide +kernel
theorem dX0_sayNext_132 : decode cX0_sayNext 132 = .ok (.bipush 20, 2) := by decide +kernel
theorem dX0_sayNext_134 : decode cX0_sayNext 134 = .ok (.imul, 1) := by decide +kernel
theorem dX0_sayNext_135 : decode cX0_sayNext 135 = .ok (.aload_n 1, 1) := by decide +kernel
theorem dX0_sayNext_136 : decode cX0_sayNext 136 = .ok (.getfield 21, 3) := by decide +kernel
theorem dX0_sayNext_139 : decode cX0_sayNext 139 = .ok (.iadd, 1) := by decide +kernel
theorem dX0_sayNext_140 : decode cX0_sayNext 140 = .ok (.iload 5, 2) := by decide +kernel
theorem dX0_sayNext_142 : decode cX0_sayNext 142 = .ok (.iastore, 1) := by decide +kernel
theorem dX0_sayNext_143 : decode cX0_sayNext 143 = .ok (.aload_n 1, 1) := by decide +kernel
theorem dX0_sayNext_144 : decode cX0_sayNext 144 = .ok (.getfield 83, 3) := by decide +kernel
theorem dX0_sayNext_147 : decode cX0_sayNext 147 = .ok (.aload_n 1, 1) := by decide +kernel
theorem dX0_sayNext_148 : decode cX0_sayNext 148 = .ok (.getfield 38, 3) := by decide +kernel
theorem dX0_sayNext_151 : decode cX0_sayNext 151 = .ok (.iload 4, 2) := by decide +kernel
theorem dX0_sayNext_153 : decode cX0_sayNext 153 = .ok (.iload_n 3, 1) := by decide +kernel
theorem dX0_sayNext_154 : decode cX0_sayNext 154 = .ok (.iload 5, 2) := by decide +kernel
theorem dX0_sayNext_156 : decode cX0_sayNext 156 = .ok (.invokevirtual 87, 3) := by decide +kernel
theorem dX0_sayNext_159 : decode cX0_sayNext 159 = .ok (.iinc 4 1, 3) := by decide +kernel
theorem dX0_sayNext_162 : decode cX0_sayNext 162 = .ok (.goto (-149), 3) := by decide +kernel
theorem dX0_sayNext_165 : decode cX0_sayNext 165 = .ok (.aload_n 1, 1) := by decide +kernel
theorem dX0_sayNext_166 : decode cX0_sayNext 166 = .ok (.dup, 1) := by decide +kernel
theorem dX0_sayNext_167 : decode cX0_sayNext 167 = .ok (.getfield 21, 3) := by decide +kernel
theorem dX0_sayNext_170 : decode cX0_sayNext 170 = .ok (.iconst 1, 1) := by decide +kernel
theorem dX0_sayNext_171 : decode cX0_sayNext 171 = .ok (.iadd, 1) := by decide +kernel
theorem dX0_sayNext_172 : decode cX0_sayNext 172 = .ok (.putfield 21, 3) := by decide +kernel
theorem dX0_sayNext_175 : decode cX0_sayNext 175 = .ok (.return_, 1) := by decide +kernel
theorem dX0_letRest_0 : decode cX0_letRest 0 = .ok (.iconst 0, 1) := by decide +kernel
theorem dX0_letRest_1 : decode cX0_letRest 1 = .ok (.istore_n 2, 1) := by decide +kernel
theorem dX0_letRest_2 : decode cX0_letRest 2 = .ok (.iload_n 2, 1) := by decide +kernel
theorem dX0_letRest_3 : decode cX0_letRest 3 = .ok (.aload_n 1, 1) := by decide +kernel
theorem dX0_letRest_4 : decode cX0_letRest 4 = .ok (.getfield 50, 3) := by decide +kernel
theorem dX0_letRest_7 : decode cX0_letRest 7 = .ok (.if_icmp .ge 23, 3) := by decide +kernel
theorem dX0_letRest_10 : decode cX0_letRest 10 = .ok (.aload_n 0, 1) := by decide +kernel
theorem dX0_letRest_11 : decode cX0_letRest 11 = .ok (.aload_n 1, 1) := by decide +kernel
theorem dX0_letRest_12 : decode cX0_letRest 12 = .ok (.iload_n 2, 1) := by decide +kernel
theorem dX0_letRest_13 : decode cX0_letRest 13 = .ok (.bipush 8, 2) := by decide +kernel
theorem dX0_letRest_15 : decode cX0_letRest 15 = .ok (.invokevirtual 53, 3) := by decide +kernel
theorem dX0_letRest_18 : decode cX0_letRest 18 = .ok (.aload_n 0, 1) := by decide +kernel
theorem dX0_letRest_19 : decode cX0_letRest 19 = .ok (.aload_n 1, 1) := by decide +kernel
theorem dX0_letRest_20 : decode cX0_letRest 20 = .ok (.iload_n 2, 1) := by decide +kernel
theorem dX0_letRest_21 : decode cX0_letRest 21 = .ok (.invokevirtual 76, 3) := by decide +kernel
theorem dX0_letRest_24 : decode cX0_letRest 24 = .ok (.iinc 2 1, 3) := by decide +kernel
theorem dX0_letRest_27 : decode cX0_letRest 27 = .ok (.goto (-25), 3) := by decide +kernel
theorem dX0_letRest_30 : decode cX0_letRest 30 = .ok (.return_, 1) := by decide +kernel
theorem dX0_restOne_0 : decode cX0_restOne 0 = .ok (.aload_n 1, 1) := by decide +kernel
theorem dX0_restOne_1 : decode cX0_restOne 1 = .ok (.getfield 69, 3) := by decide +kernel
theorem dX0_restOne_4 : decode cX0_restOne 4 = .ok (.iload_n 2, 1) := by decide +kernel
theorem dX0_restOne_5 : decode cX0_restOne 5 = .ok (.aload_n 1, 1) := by decide +kernel
theorem dX0_restOne_6 : decode cX0_restOne 6 = .ok (.getfield 69, 3) := by decide +kernel
theorem dX0_restOne_9 : decode cX0_restOne 9 = .ok (.iload_n 2, 1) := by decide +kernel
theorem dX0_restOne_10 : decode cX0_restOne 10 = .ok (.iaload, 1) := by decide +kernel
theorem dX0_restOne_11 : decode cX0_restOne 11 = .ok (.iconst 2, 1) := by decide +kernel
theorem dX0_restOne_12 : decode cX0_restOne 12 = .ok (.isub, 1) := by decide +kernel
theorem dX0_restOne_13 : decode cX0_restOne 13 = .ok (.aload_n 0, 1) := by decide +kernel
theorem dX0_restOne_14 : decode cX0_restOne 14 = .ok (.aload_n 1, 1) := by decide +kernel
theorem dX0_restOne_15 : decode cX0_restOne 15 = .ok (.iconst 1, 1) := by decide +kernel
theorem dX0_restOne_16 : decode cX0_restOne 16 = .ok (.invokevirtual 72, 3) := by decide +kernel
theorem dX0_restOne_19 : decode cX0_restOne 19 = .ok (.isub, 1) := by decide +kernel
theorem dX0_restOne_20 : decode cX0_restOne 20 = .ok (.iconst 0, 1) := by decide +kernel
theorem dX0_restOne_21 : decode cX0_restOne 21 = .ok (.invokestatic 93, 3) := by decide +kernel
theorem dX0_restOne_24 : decode cX0_restOne 24 = .ok (.iastore, 1) := by decide +kernel
theorem dX0_restOne_25 : decode cX0_restOne 25 = .ok (.return_, 1) := by decide +kernel
theorem dX0_observe_0 : decode cX0_observe 0 = .ok (.aload_n 0, 1) := by decide +kernel
theorem dX0_observe_1 : decode cX0_observe 1 = .ok (.getfield 11, 3) := by decide +kernel
theorem dX0_observe_4 : decode cX0_observe 4 = .ok (.iconst 0, 1) := by decide +kernel
theorem dX0_observe_5 : decode cX0_observe 5 = .ok (.iload_n 2, 1) := by decide +kernel
theorem dX0_observe_6 : decode cX0_observe 6 = .ok (.iastore, 1) := by decide +kernel
theorem dX0_observe_7 : decode cX0_observe 7 = .ok (.aload_n 0, 1) := by decide +kernel
theorem dX0_observe_8 : decode cX0_observe 8 = .ok (.getfield 11, 3) := by decide +kernel
theorem dX0_observe_11 : decode cX0_observe 11 = .ok (.iconst 1, 1) := by decide +kernel
theorem dX0_observe_12 : decode cX0_observe 12 = .ok (.iload_n 3, 1) := by decide +kernel
theorem dX0_observe_13 : decode cX0_observe 13 = .ok (.iastore, 1) := by decide +kernel
theorem dX0_observe_14 : decode cX0_observe 14 = .ok (.aload_n 0, 1) := by decide +kernel
theorem dX0_observe_15 : decode cX0_observe 15 = .ok (.getfield 11, 3) := by decide +kernel
theorem dX0_observe_18 : decode cX0_observe 18 = .ok (.iconst 2, 1) := by decide +kernel
theorem dX0_observe_19 : decode cX0_observe 19 = .ok (.iconst 0, 1) := by decide +kernel
theorem dX0_observe_20 : decode cX0_observe 20 = .ok (.iastore, 1) := by decide +kernel
theorem dX0_observe_21 : decode cX0_observe 21 = .ok (.aload_n 0, 1) := by decide +kernel
theorem dX0_observe_22 : decode cX0_observe 22 = .ok (.getfield 11, 3) := by decide +kernel
theorem dX0_observe_25 : decode cX0_observe 25 = .ok (.iconst 3, 1) := by decide +kernel
theorem dX0_observe_26 : decode cX0_observe 26 = .ok (.iconst 0, 1) := by decide +kernel
theorem dX0_observe_27 : decode cX0_observe 27 = .ok (.iastore, 1) := by decide +kernel
theorem dX0_observe_28 : decode cX0_observe 28 = .ok (.aload_n 0, 1) := by decide +kernel
theorem dX0_observe_29 : decode cX0_observe 29 = .ok (.getfield 11, 3) := by decide +kernel
theorem dX0_observe_32 : decode cX0_observe 32 = .ok (.iconst 4, 1) := by decide +kernel
theorem dX0_observe_33 : decode cX0_observe 33 = .ok (.aload_n 1, 1) := by decide +kernel
theorem dX0_observe_34 : decode cX0_observe 34 = .ok (.getfield 96, 3) := by decide +kernel
theorem dX0_observe_37 : decode cX0_observe 37 = .ok (.iload_n 2, 1) := by decide +kernel
theorem dX0_observe_38 : decode cX0_observe 38 = .ok (.iaload, 1) := by decide +kernel
theorem dX0_observe_39 : decode cX0_observe 39 = .ok (.iastore, 1) := by decide +kernel
theorem dX0_observe_40 : decode cX0_observe 40 = .ok (.aload_n 0, 1) := by decide +kernel
theorem dX0_observe_41 : decode cX0_observe 41 = .ok (.getfield 11, 3) := by decide +kernel
theorem dX0_observe_44 : decode cX0_observe 44 = .ok (.iconst 5, 1) := by decide +kernel
theorem dX0_observe_45 : decode cX0_observe 45 = .ok (.aload_n 1, 1) := by decide +kernel
theorem dX0_observe_46 : decode cX0_observe 46 = .ok (.getfield 99, 3) := by decide +kernel
theorem dX0_observe_49 : decode cX0_observe 49 = .ok (.iload_n 2, 1) := by decide +kernel
theorem dX0_observe_50 : decode cX0_observe 50 = .ok (.iaload, 1) := by decide +kernel
theorem dX0_observe_51 : decode cX0_observe 51 = .ok (.iastore, 1) := by decide +kernel
theorem dX0_observe_52 : decode cX0_observe 52 = .ok (.aload_n 0, 1) := by decide +kernel
theorem dX0_observe_53 : decode cX0_observe 53 = .ok (.getfield 11, 3) := by decide +kernel
theorem dX0_observe_56 : decode cX0_observe 56 = .ok (.bipush 6, 2) := by decide +kernel
theorem dX0_observe_58 : decode cX0_observe 58 = .ok (.aload_n 1, 1) := by decide +kernel
theorem dX0_observe_59 : decode cX0_observe 59 = .ok (.getfield 69, 3) := by decide +kernel
theorem dX0_observe_62 : decode cX0_observe 62 = .ok (.iload_n 2, 1) := by decide +kernel
theorem dX0_observe_63 : decode cX0_observe 63 = .ok (.iaload, 1) := by decide +kernel
theorem dX0_observe_64 : decode cX0_observe 64 = .ok (.iastore, 1) := by decide +kernel
theorem dX0_observe_65 : decode cX0_observe 65 = .ok (.aload_n 0, 1) := by decide +kernel
theorem dX0_observe_66 : decode cX0_observe 66 = .ok (.getfield 11, 3) := by decide +kernel
theorem dX0_observe_69 : decode cX0_observe 69 = .ok (.bipush 7, 2) := by decide +kernel
theorem dX0_observe_71 : decode cX0_observe 71 = .ok (.iconst 0, 1) := by decide +kernel
theorem dX0_observe_72 : decode cX0_observe 72 = .ok (.iastore, 1) := by decide +kernel
theorem dX0_observe_73 : decode cX0_observe 73 = .ok (.aload_n 0, 1) := by decide +kernel
theorem dX0_observe_74 : decode cX0_observe 74 = .ok (.getfield 11, 3) := by decide +kernel
theorem dX0_observe_77 : decode cX0_observe 77 = .ok (.bipush 8, 2) := by decide +kernel
theorem dX0_observe_79 : decode cX0_observe 79 = .ok (.iconst 0, 1) := by decide +kernel
theorem dX0_observe_80 : decode cX0_observe 80 = .ok (.iastore, 1) := by decide +kernel
theorem dX0_observe_81 : decode cX0_observe 81 = .ok (.iload_n 3, 1) := by decide +kernel
theorem dX0_observe_82 : decode cX0_observe 82 = .ok (.aload_n 1, 1) := by decide +kernel
theorem dX0_observe_83 : decode cX0_observe 83 = .ok (.getfield 102, 3) := by decide +kernel
theorem dX0_observe_86 : decode cX0_observe 86 = .ok (.if_icmp .ge 100, 3) := by decide +kernel
theorem dX0_observe_89 : decode cX0_observe 89 = .ok (.aload_n 0, 1) := by decide +kernel
theorem dX0_observe_90 : decode cX0_observe 90 = .ok (.getfield 17, 3) := by decide +kernel
theorem dX0_observe_93 : decode cX0_observe 93 = .ok (.aload_n 1, 1) := by decide +kernel
theorem dX0_observe_94 : decode cX0_observe 94 = .ok (.aload_n 1, 1) := by decide +kernel
theorem dX0_observe_95 : decode cX0_observe 95 = .ok (.getfield 105, 3) := by decide +kernel
theorem dX0_observe_98 : decode cX0_observe 98 = .ok (.iload_n 2, 1) := by decide +kernel
theorem dX0_observe_99 : decode cX0_observe 99 = .ok (.iaload, 1) := by decide +kernel
theorem dX0_observe_100 : decode cX0_observe 100 = .ok (.invokevirtual 108, 3) := by decide +kernel
theorem dX0_observe_103 : decode cX0_observe 103 = .ok (.aload_n 0, 1) := by decide +kernel
theorem dX0_observe_104 : decode cX0_observe 104 = .ok (.getfield 11, 3) := by decide +kernel
theorem dX0_observe_107 : decode cX0_observe 107 = .ok (.iconst 2, 1) := by decide +kernel
theorem dX0_observe_108 : decode cX0_observe 108 = .ok (.aload_n 0, 1) := by decide +kernel
theorem dX0_observe_109 : decode cX0_observe 109 = .ok (.getfield 17, 3) := by decide +kernel
theorem dX0_observe_112 : decode cX0_observe 112 = .ok (.getfield 113, 3) := by decide +kernel
theorem dX0_observe_115 : decode cX0_observe 115 = .ok (.iload_n 3, 1) := by decide +kernel
theorem dX0_observe_116 : decode cX0_observe 116 = .ok (.iaload, 1) := by decide +kernel
theorem dX0_observe_117 : decode cX0_observe 117 = .ok (.iastore, 1) := by decide +kernel
theorem dX0_observe_118 : decode cX0_observe 118 = .ok (.aload_n 0, 1) := by decide +kernel
theorem dX0_observe_119 : decode cX0_observe 119 = .ok (.getfield 11, 3) := by decide +kernel
theorem dX0_observe_122 : decode cX0_observe 122 = .ok (.iconst 3, 1) := by decide +kernel
theorem dX0_observe_123 : decode cX0_observe 123 = .ok (.aload_n 1, 1) := by decide +kernel
theorem dX0_observe_124 : decode cX0_observe 124 = .ok (.getfield 116, 3) := by decide +kernel
theorem dX0_observe_127 : decode cX0_observe 127 = .ok (.iload_n 3, 1) := by decide +kernel
theorem dX0_observe_128 : decode cX0_observe 128 = .ok (.iaload, 1) := by decide +kernel
theorem dX0_observe_129 : decode cX0_observe 129 = .ok (.iastore, 1) := by decide +kernel
theorem dX0_observe_130 : decode cX0_observe 130 = .ok (.aload_n 0, 1) := by decide +kernel
theorem dX0_observe_131 : decode cX0_observe 131 = .ok (.getfield 11, 3) := by decide +kernel
theorem dX0_observe_134 : decode cX0_observe 134 = .ok (.bipush 7, 2) := by decide +kernel
theorem dX0_observe_136 : decode cX0_observe 136 = .ok (.aload_n 0, 1) := by decide +kernel
theorem dX0_observe_137 : decode cX0_observe 137 = .ok (.getfield 17, 3) := by decide +kernel
theorem dX0_observe_140 : decode cX0_observe 140 = .ok (.getfield 113, 3) := by decide +kernel
theorem dX0_observe_143 : decode cX0_observe 143 = .ok (.iload_n 3, 1) := by decide +kernel
theorem dX0_observe_144 : decode cX0_observe 144 = .ok (.iaload, 1) := by decide +kernel
theorem dX0_observe_145 : decode cX0_observe 145 = .ok (.aload_n 1, 1) := by decide +kernel
theorem dX0_observe_146 : decode cX0_observe 146 = .ok (.getfield 116, 3) := by decide +kernel
theorem dX0_observe_149 : decode cX0_observe 149 = .ok (.iload_n 3, 1) := by decide +kernel
theorem dX0_observe_150 : decode cX0_observe 150 = .ok (.iaload, 1) := by decide +kernel
theorem dX0_observe_151 : decode cX0_observe 151 = .ok (.if_icmp .ne 7, 3) := by decide +kernel
theorem dX0_observe_154 : decode cX0_observe 154 = .ok (.iconst 1, 1) := by decide +kernel
theorem dX0_observe_155 : decode cX0_observe 155 = .ok (.goto 4, 3) := by decide +kernel
theorem dX0_observe_158 : decode cX0_observe 158 = .ok (.iconst 0, 1) := by decide +kernel
theorem dX0_observe_159 : decode cX0_observe 159 = .ok (.iastore, 1) := by decide +kernel
theorem dX0_observe_160 : decode cX0_observe 160 = .ok (.aload_n 0, 1) := by decide +kernel
theorem dX0_observe_161 : decode cX0_observe 161 = .ok (.getfield 11, 3) := by decide +kernel
theorem dX0_observe_164 : decode cX0_observe 164 = .ok (.bipush 8, 2) := by decide +kernel
theorem dX0_observe_166 : decode cX0_observe 166 = .ok (.aload_n 0, 1) := by decide +kernel
theorem dX0_observe_167 : decode cX0_observe 167 = .ok (.getfield 17, 3) := by decide +kernel
theorem dX0_observe_170 : decode cX0_observe 170 = .ok (.iload_n 3, 1) := by decide +kernel
theorem dX0_observe_171 : decode cX0_observe 171 = .ok (.invokevirtual 119, 3) := by decide +kernel
theorem dX0_observe_174 : decode cX0_observe 174 = .ok (.iconst 1, 1) := by decide +kernel
theorem dX0_observe_175 : decode cX0_observe 175 = .ok (.iload_n 3, 1) := by decide +kernel
theorem dX0_observe_176 : decode cX0_observe 176 = .ok (.ishl, 1) := by decide +kernel
theorem dX0_observe_177 : decode cX0_observe 177 = .ok (.if_icmp .ne 7, 3) := by decide +kernel
theorem dX0_observe_180 : decode cX0_observe 180 = .ok (.iconst 1, 1) := by decide +kernel
theorem dX0_observe_181 : decode cX0_observe 181 = .ok (.goto 4, 3) := by decide +kernel
theorem dX0_observe_184 : decode cX0_observe 184 = .ok (.iconst 0, 1) := by decide +kernel
theorem dX0_observe_185 : decode cX0_observe 185 = .ok (.iastore, 1) := by decide +kernel
theorem dX0_observe_186 : decode cX0_observe 186 = .ok (.return_, 1) := by decide +kernel
theorem dX0_isKeepingUp_0 : decode cX0_isKeepingUp 0 = .ok (.aload_n 0, 1) := by decide +kernel
theorem dX0_isKeepingUp_1 : decode cX0_isKeepingUp 1 = .ok (.getfield 11, 3) := by decide +kernel
theorem dX0_isKeepingUp_4 : decode cX0_isKeepingUp 4 = .ok (.iconst 2, 1) := by decide +kernel
theorem dX0_isKeepingUp_5 : decode cX0_isKeepingUp 5 = .ok (.iaload, 1) := by decide +kernel
theorem dX0_isKeepingUp_6 : decode cX0_isKeepingUp 6 = .ok (.aload_n 0, 1) := by decide +kernel
theorem dX0_isKeepingUp_7 : decode cX0_isKeepingUp 7 = .ok (.getfield 11, 3) := by decide +kernel
theorem dX0_isKeepingUp_10 : decode cX0_isKeepingUp 10 = .ok (.iconst 4, 1) := by decide +kernel
theorem dX0_isKeepingUp_11 : decode cX0_isKeepingUp 11 = .ok (.iaload, 1) := by decide +kernel
theorem dX0_isKeepingUp_12 : decode cX0_isKeepingUp 12 = .ok (.aload_n 1, 1) := by decide +kernel
theorem dX0_isKeepingUp_13 : decode cX0_isKeepingUp 13 = .ok (.getfield 123, 3) := by decide +kernel
theorem dX0_isKeepingUp_16 : decode cX0_isKeepingUp 16 = .ok (.imul, 1) := by decide +kernel
theorem dX0_isKeepingUp_17 : decode cX0_isKeepingUp 17 = .ok (.aload_n 0, 1) := by decide +kernel
theorem dX0_isKeepingUp_18 : decode cX0_isKeepingUp 18 = .ok (.getfield 11, 3) := by decide +kernel
theorem dX0_isKeepingUp_21 : decode cX0_isKeepingUp 21 = .ok (.bipush 6, 2) := by decide +kernel
theorem dX0_isKeepingUp_23 : decode cX0_isKeepingUp 23 = .ok (.iaload, 1) := by decide +kernel
theorem dX0_isKeepingUp_24 : decode cX0_isKeepingUp 24 = .ok (.bipush 10, 2) := by decide +kernel
theorem dX0_isKeepingUp_26 : decode cX0_isKeepingUp 26 = .ok (.idiv, 1) := by decide +kernel
theorem dX0_isKeepingUp_27 : decode cX0_isKeepingUp 27 = .ok (.isub, 1) := by decide +kernel
theorem dX0_isKeepingUp_28 : decode cX0_isKeepingUp 28 = .ok (.if_icmp .gt 7, 3) := by decide +kernel
theorem dX0_isKeepingUp_31 : decode cX0_isKeepingUp 31 = .ok (.iconst 1, 1) := by decide +kernel
theorem dX0_isKeepingUp_32 : decode cX0_isKeepingUp 32 = .ok (.goto 4, 3) := by decide +kernel
theorem dX0_isKeepingUp_35 : decode cX0_isKeepingUp 35 = .ok (.iconst 0, 1) := by decide +kernel
theorem dX0_isKeepingUp_36 : decode cX0_isKeepingUp 36 = .ok (.ireturn, 1) := by decide +kernel
theorem dX0_slipsOf_0 : decode cX0_slipsOf 0 = .ok (.aload_n 1, 1) := by decide +kernel
theorem dX0_slipsOf_1 : decode cX0_slipsOf 1 = .ok (.getfield 126, 3) := by decide +kernel
theorem dX0_slipsOf_4 : decode cX0_slipsOf 4 = .ok (.aload_n 0, 1) := by decide +kernel
theorem dX0_slipsOf_5 : decode cX0_slipsOf 5 = .ok (.aload_n 1, 1) := by decide +kernel
theorem dX0_slipsOf_6 : decode cX0_slipsOf 6 = .ok (.iconst 2, 1) := by decide +kernel
theorem dX0_slipsOf_7 : decode cX0_slipsOf 7 = .ok (.invokevirtual 72, 3) := by decide +kernel
theorem dX0_slipsOf_10 : decode cX0_slipsOf 10 = .ok (.iadd, 1) := by decide +kernel
theorem dX0_slipsOf_11 : decode cX0_slipsOf 11 = .ok (.iconst 5, 1) := by decide +kernel
theorem dX0_slipsOf_12 : decode cX0_slipsOf 12 = .ok (.aload_n 0, 1) := by decide +kernel
theorem dX0_slipsOf_13 : decode cX0_slipsOf 13 = .ok (.getfield 11, 3) := by decide +kernel
theorem dX0_slipsOf_16 : decode cX0_slipsOf 16 = .ok (.iconst 5, 1) := by decide +kernel
theorem dX0_slipsOf_17 : decode cX0_slipsOf 17 = .ok (.iaload, 1) := by decide +kernel
theorem dX0_slipsOf_18 : decode cX0_slipsOf 18 = .ok (.imul, 1) := by decide +kernel
theorem dX0_slipsOf_19 : decode cX0_slipsOf 19 = .ok (.isub, 1) := by decide +kernel
theorem dX0_slipsOf_20 : decode cX0_slipsOf 20 = .ok (.istore_n 2, 1) := by decide +kernel
theorem dX0_slipsOf_21 : decode cX0_slipsOf 21 = .ok (.iconst 0, 1) := by decide +kernel
theorem dX0_slipsOf_22 : decode cX0_slipsOf 22 = .ok (.iload_n 2, 1) := by decide +kernel
theorem dX0_slipsOf_23 : decode cX0_slipsOf 23 = .ok (.bipush 100, 2) := by decide +kernel
theorem dX0_slipsOf_25 : decode cX0_slipsOf 25 = .ok (.invokestatic 41, 3) := by decide +kernel
theorem dX0_slipsOf_28 : decode cX0_slipsOf 28 = .ok (.invokestatic 93, 3) := by decide +kernel
theorem dX0_slipsOf_31 : decode cX0_slipsOf 31 = .ok (.ireturn, 1) := by decide +kernel
theorem dX0_lawOf_0 : decode cX0_lawOf 0 = .ok (.aload_n 1, 1) := by decide +kernel
theorem dX0_lawOf_1 : decode cX0_lawOf 1 = .ok (.getfield 129, 3) := by decide +kernel
theorem dX0_lawOf_4 : decode cX0_lawOf 4 = .ok (.ifnonnull 7, 3) := by decide +kernel
theorem dX0_lawOf_7 : decode cX0_lawOf 7 = .ok (.iconst 0, 1) := by decide +kernel
theorem dX0_lawOf_8 : decode cX0_lawOf 8 = .ok (.goto 15, 3) := by decide +kernel
theorem dX0_lawOf_11 : decode cX0_lawOf 11 = .ok (.aload_n 1, 1) := by decide +kernel
theorem dX0_lawOf_12 : decode cX0_lawOf 12 = .ok (.getfield 129, 3) := by decide +kernel
theorem dX0_lawOf_15 : decode cX0_lawOf 15 = .ok (.iload_n 2, 1) := by decide +kernel
theorem dX0_lawOf_16 : decode cX0_lawOf 16 = .ok (.aload_n 0, 1) := by decide +kernel
theorem dX0_lawOf_17 : decode cX0_lawOf 17 = .ok (.getfield 11, 3) := by decide +kernel
theorem dX0_lawOf_20 : decode cX0_lawOf 20 = .ok (.invokevirtual 133, 3) := by decide +kernel
theorem dX0_lawOf_23 : decode cX0_lawOf 23 = .ok (.ireturn, 1) := by decide +kernel
theorem dX1_init_0 : decode cX1_init 0 = .ok (.aload_n 0, 1) := by decide +kernel
theorem dX1_init_1 : decode cX1_init 1 = .ok (.invokespecial 3, 3) := by decide +kernel
theorem dX1_init_4 : decode cX1_init 4 = .ok (.aload_n 0, 1) := by decide +kernel
theorem dX1_init_5 : decode cX1_init 5 = .ok (.sipush 256, 3) := by decide +kernel
theorem dX1_init_8 : decode cX1_init 8 = .ok (.newarray .int, 2) := by decide +kernel
theorem dX1_init_10 : decode cX1_init 10 = .ok (.putfield 9, 3) := by decide +kernel
theorem dX1_init_13 : decode cX1_init 13 = .ok (.aload_n 0, 1) := by decide +kernel
theorem dX1_init_14 : decode cX1_init 14 = .ok (.bipush 9, 2) := by decide +kernel
theorem dX1_init_16 : decode cX1_init 16 = .ok (.newarray .int, 2) := by decide +kernel
theorem dX1_init_18 : decode cX1_init 18 = .ok (.putfield 15, 3) := by decide +kernel
theorem dX1_init_21 : decode cX1_init 21 = .ok (.aload_n 0, 1) := by decide +kernel
theorem dX1_init_22 : decode cX1_init 22 = .ok (.aload_n 1, 1) := by decide +kernel
theorem dX1_init_23 : decode cX1_init 23 = .ok (.putfield 18, 3) := by decide +kernel
theorem dX1_init_26 : decode cX1_init 26 = .ok (.aload_n 0, 1) := by decide +kernel
theorem dX1_init_27 : decode cX1_init 27 = .ok (.aload_n 2, 1) := by decide +kernel
theorem dX1_init_28 : decode cX1_init 28 = .ok (.putfield 22, 3) := by decide +kernel
theorem dX1_init_31 : decode cX1_init 31 = .ok (.return_, 1) := by decide +kernel
theorem dX1_takeHeard_0 : decode cX1_takeHeard 0 = .ok (.aload_n 0, 1) := by decide +kernel
theorem dX1_takeHeard_1 : decode cX1_takeHeard 1 = .ok (.bipush 6, 2) := by decide +kernel
theorem dX1_takeHeard_3 : decode cX1_takeHeard 3 = .ok (.bipush 8, 2) := by decide +kernel
theorem dX1_takeHeard_5 : decode cX1_takeHeard 5 = .ok (.invokevirtual 26, 3) := by decide +kernel
theorem dX1_takeHeard_8 : decode cX1_takeHeard 8 = .ok (.ireturn, 1) := by decide +kernel
theorem dX1_takeHand_0 : decode cX1_takeHand 0 = .ok (.aload_n 0, 1) := by decide +kernel
theorem dX1_takeHand_1 : decode cX1_takeHand 1 = .ok (.aload_n 0, 1) := by decide +kernel
theorem dX1_takeHand_2 : decode cX1_takeHand 2 = .ok (.getfield 22, 3) := by decide +kernel
theorem dX1_takeHand_5 : decode cX1_takeHand 5 = .ok (.getfield 30, 3) := by decide +kernel
theorem dX1_takeHand_8 : decode cX1_takeHand 8 = .ok (.bipush 7, 2) := by decide +kernel
theorem dX1_takeHand_10 : decode cX1_takeHand 10 = .ok (.invokevirtual 26, 3) := by decide +kernel
theorem dX1_takeHand_13 : decode cX1_takeHand 13 = .ok (.ireturn, 1) := by decide +kernel
theorem dX1_takeRows_0 : decode cX1_takeRows 0 = .ok (.aload_n 0, 1) := by decide +kernel
theorem dX1_takeRows_1 : decode cX1_takeRows 1 = .ok (.getfield 18, 3) := by decide +kernel
theorem dX1_takeRows_4 : decode cX1_takeRows 4 = .ok (.getfield 36, 3) := by decide +kernel
theorem dX1_takeRows_7 : decode cX1_takeRows 7 = .ok (.istore_n 3, 1) := by decide +kernel
theorem dX1_takeRows_8 : decode cX1_takeRows 8 = .ok (.aload_n 0, 1) := by decide +kernel
theorem dX1_takeRows_9 : decode cX1_takeRows 9 = .ok (.getfield 18, 3) := by decide +kernel
theorem dX1_takeRows_12 : decode cX1_takeRows 12 = .ok (.iconst 0, 1) := by decide +kernel
theorem dX1_takeRows_13 : decode cX1_takeRows 13 = .ok (.putfield 36, 3) := by decide +kernel
theorem dX1_takeRows_16 : decode cX1_takeRows 16 = .ok (.aload_n 0, 1) := by decide +kernel
theorem dX1_takeRows_17 : decode cX1_takeRows 17 = .ok (.iload_n 3, 1) := by decide +kernel
theorem dX1_takeRows_18 : decode cX1_takeRows 18 = .ok (.iconst 2, 1) := by decide +kernel
theorem dX1_takeRows_19 : decode cX1_takeRows 19 = .ok (.idiv, 1) := by decide +kernel
theorem dX1_takeRows_20 : decode cX1_takeRows 20 = .ok (.putfield 41, 3) := by decide +kernel
theorem dX1_takeRows_23 : decode cX1_takeRows 23 = .ok (.iload_n 3, 1) := by decide +kernel
theorem dX1_takeRows_24 : decode cX1_takeRows 24 = .ok (.bipush 40, 2) := by decide +kernel
theorem dX1_takeRows_26 : decode cX1_takeRows 26 = .ok (.if_icmp .gt 9, 3) := by decide +kernel
theorem dX1_takeRows_29 : decode cX1_takeRows 29 = .ok (.iload_n 3, 1) := by decide +kernel
theorem dX1_takeRows_30 : decode cX1_takeRows 30 = .ok (.iconst 2, 1) := by decide +kernel
theorem dX1_takeRows_31 : decode cX1_takeRows 31 = .ok (.irem, 1) := by decide +kernel
theorem dX1_takeRows_32 : decode cX1_takeRows 32 = .ok (.ifCond .eq 5, 3) := by decide +kernel
theorem dX1_takeRows_35 : decode cX1_takeRows 35 = .ok (.iconst 0, 1) := by decide +kernel
theorem dX1_takeRows_36 : decode cX1_takeRows 36 = .ok (.ireturn, 1) := by decide +kernel
theorem dX1_takeRows_37 : decode cX1_takeRows 37 = .ok (.iconst 0, 1) := by decide +kernel
theorem dX1_takeRows_38 : decode cX1_takeRows 38 = .ok (.istore 4, 2) := by decide +kernel
theorem dX1_takeRows_40 : decode cX1_takeRows 40 = .ok (.iload 4, 2) := by decide +kernel
theorem dX1_takeRows_42 : decode cX1_takeRows 42 = .ok (.aload_n 0, 1) := by decide +kernel
theorem dX1_takeRows_43 : decode cX1_takeRows 43 = .ok (.getfield 41, 3) := by decide +kernel
theorem dX1_takeRows_46 : decode cX1_takeRows 46 = .ok (.if_icmp .ge 31, 3) := by decide +kernel
theorem dX1_takeRows_49 : decode cX1_takeRows 49 = .ok (.aload_n 0, 1) := by decide +kernel
theorem dX1_takeRows_50 : decode cX1_takeRows 50 = .ok (.iload 4, 2) := by decide +kernel
theorem dX1_takeRows_52 : decode cX1_takeRows 52 = .ok (.invokevirtual 44, 3) := by decide +kernel
theorem dX1_takeRows_55 : decode cX1_takeRows 55 = .ok (.iload_n 1, 1) := by decide +kernel
theorem dX1_takeRows_56 : decode cX1_takeRows 56 = .ok (.if_icmp .ge 13, 3) := by decide +kernel
theorem dX1_takeRows_59 : decode cX1_takeRows 59 = .ok (.aload_n 0, 1) := by decide +kernel
theorem dX1_takeRows_60 : decode cX1_takeRows 60 = .ok (.iload 4, 2) := by decide +kernel
theorem dX1_takeRows_62 : decode cX1_takeRows 62 = .ok (.invokevirtual 48, 3) := by decide +kernel
theorem dX1_takeRows_65 : decode cX1_takeRows 65 = .ok (.iload_n 2, 1) := by decide +kernel
theorem dX1_takeRows_66 : decode cX1_takeRows 66 = .ok (.if_icmp .lt 5, 3) := by decide +kernel
theorem dX1_takeRows_69 : decode cX1_takeRows 69 = .ok (.iconst 0, 1) := by decide +kernel
theorem dX1_takeRows_70 : decode cX1_takeRows 70 = .ok (.ireturn, 1) := by decide +kernel
theorem dX1_takeRows_71 : decode cX1_takeRows 71 = .ok (.iinc 4 1, 3) := by decide +kernel
theorem dX1_takeRows_74 : decode cX1_takeRows 74 = .ok (.goto (-34), 3) := by decide +kernel
theorem dX1_takeRows_77 : decode cX1_takeRows 77 = .ok (.iconst 1, 1) := by decide +kernel
theorem dX1_takeRows_78 : decode cX1_takeRows 78 = .ok (.ireturn, 1) := by decide +kernel
theorem dX1_firstOf_0 : decode cX1_firstOf 0 = .ok (.aload_n 0, 1) := by decide +kernel
theorem dX1_firstOf_1 : decode cX1_firstOf 1 = .ok (.getfield 18, 3) := by decide +kernel
theorem dX1_firstOf_4 : decode cX1_firstOf 4 = .ok (.getfield 51, 3) := by decide +kernel
theorem dX1_firstOf_7 : decode cX1_firstOf 7 = .ok (.iconst 2, 1) := by decide +kernel
theorem dX1_firstOf_8 : decode cX1_firstOf 8 = .ok (.iload_n 1, 1) := by decide +kernel
theorem dX1_firstOf_9 : decode cX1_firstOf 9 = .ok (.imul, 1) := by decide +kernel
theorem dX1_firstOf_10 : decode cX1_firstOf 10 = .ok (.iaload, 1) := by decide +kernel
theorem dX1_firstOf_11 : decode cX1_firstOf 11 = .ok (.ireturn, 1) := by decide +kernel
theorem dX1_secondOf_0 : decode cX1_secondOf 0 = .ok (.aload_n 0, 1) := by decide +kernel
theorem dX1_secondOf_1 : decode cX1_secondOf 1 = .ok (.getfield 18, 3) := by decide +kernel
theorem dX1_secondOf_4 : decode cX1_secondOf 4 = .ok (.getfield 51, 3) := by decide +kernel
theorem dX1_secondOf_7 : decode cX1_secondOf 7 = .ok (.iconst 2, 1) := by decide +kernel
theorem dX1_secondOf_8 : decode cX1_secondOf 8 = .ok (.iload_n 1, 1) := by decide +kernel
theorem dX1_secondOf_9 : decode cX1_secondOf 9 = .ok (.imul, 1) := by decide +kernel
theorem dX1_secondOf_10 : decode cX1_secondOf 10 = .ok (.iconst 1, 1) := by decide +kernel
theorem dX1_secondOf_11 : decode cX1_secondOf 11 = .ok (.iadd, 1) := by decide +kernel
theorem dX1_secondOf_12 : decode cX1_secondOf 12 = .ok (.iaload, 1) := by decide +kernel
theorem dX1_secondOf_13 : decode cX1_secondOf 13 = .ok (.ireturn, 1) := by decide +kernel
theorem dX1_wrongRows_0 : decode cX1_wrongRows 0 = .ok (.iconst 0, 1) := by decide +kernel
theorem dX1_wrongRows_1 : decode cX1_wrongRows 1 = .ok (.istore_n 2, 1) := by decide +kernel
theorem dX1_wrongRows_2 : decode cX1_wrongRows 2 = .ok (.iconst 0, 1) := by decide +kernel
theorem dX1_wrongRows_3 : decode cX1_wrongRows 3 = .ok (.istore_n 3, 1) := by decide +kernel
theorem dX1_wrongRows_4 : decode cX1_wrongRows 4 = .ok (.iload_n 3, 1) := by decide +kernel
theorem dX1_wrongRows_5 : decode cX1_wrongRows 5 = .ok (.aload_n 0, 1) := by decide +kernel
theorem dX1_wrongRows_6 : decode cX1_wrongRows 6 = .ok (.getfield 41, 3) := by decide +kernel
theorem dX1_wrongRows_9 : decode cX1_wrongRows 9 = .ok (.if_icmp .ge 33, 3) := by decide +kernel
theorem dX1_wrongRows_12 : decode cX1_wrongRows 12 = .ok (.aload_n 0, 1) := by decide +kernel
theorem dX1_wrongRows_13 : decode cX1_wrongRows 13 = .ok (.getfield 22, 3) := by decide +kernel
theorem dX1_wrongRows_16 : decode cX1_wrongRows 16 = .ok (.iload_n 1, 1) := by decide +kernel
theorem dX1_wrongRows_17 : decode cX1_wrongRows 17 = .ok (.aload_n 0, 1) := by decide +kernel
theorem dX1_wrongRows_18 : decode cX1_wrongRows 18 = .ok (.iload_n 3, 1) := by decide +kernel
theorem dX1_wrongRows_19 : decode cX1_wrongRows 19 = .ok (.invokevirtual 44, 3) := by decide +kernel
theorem dX1_wrongRows_22 : decode cX1_wrongRows 22 = .ok (.invokevirtual 54, 3) := by decide +kernel
theorem dX1_wrongRows_25 : decode cX1_wrongRows 25 = .ok (.aload_n 0, 1) := by decide +kernel
theorem dX1_wrongRows_26 : decode cX1_wrongRows 26 = .ok (.iload_n 3, 1) := by decide +kernel
theorem dX1_wrongRows_27 : decode cX1_wrongRows 27 = .ok (.invokevirtual 48, 3) := by decide +kernel
theorem dX1_wrongRows_30 : decode cX1_wrongRows 30 = .ok (.if_icmp .eq 6, 3) := by decide +kernel
theorem dX1_wrongRows_33 : decode cX1_wrongRows 33 = .ok (.iinc 2 1, 3) := by decide +kernel
theorem dX1_wrongRows_36 : decode cX1_wrongRows 36 = .ok (.iinc 3 1, 3) := by decide +kernel
theorem dX1_wrongRows_39 : decode cX1_wrongRows 39 = .ok (.goto (-35), 3) := by decide +kernel
theorem dX1_wrongRows_42 : decode cX1_wrongRows 42 = .ok (.iload_n 2, 1) := by decide +kernel
theorem dX1_wrongRows_43 : decode cX1_wrongRows 43 = .ok (.ireturn, 1) := by decide +kernel
theorem dX1_fittingWords_0 : decode cX1_fittingWords 0 = .ok (.iconst 0, 1) := by decide +kernel
theorem dX1_fittingWords_1 : decode cX1_fittingWords 1 = .ok (.istore_n 1, 1) := by decide +kernel
theorem dX1_fittingWords_2 : decode cX1_fittingWords 2 = .ok (.iconst 0, 1) := by decide +kernel
theorem dX1_fittingWords_3 : decode cX1_fittingWords 3 = .ok (.istore_n 2, 1) := by decide +kernel
theorem dX1_fittingWords_4 : decode cX1_fittingWords 4 = .ok (.iload_n 2, 1) := by decide +kernel
theorem dX1_fittingWords_5 : decode cX1_fittingWords 5 = .ok (.aload_n 0, 1) := by decide +kernel
theorem dX1_fittingWords_6 : decode cX1_fittingWords 6 = .ok (.getfield 22, 3) := by decide +kernel
theorem dX1_fittingWords_9 : decode cX1_fittingWords 9 = .ok (.getfield 30, 3) := by decide +kernel
theorem dX1_fittingWords_12 : decode cX1_fittingWords 12 = .ok (.if_icmp .ge 24, 3) := by decide +kernel
theorem dX1_fittingWords_15 : decode cX1_fittingWords 15 = .ok (.aload_n 0, 1) := by decide +kernel
theorem dX1_fittingWords_16 : decode cX1_fittingWords 16 = .ok (.iload_n 2, 1) := by decide +kernel
theorem dX1_fittingWords_17 : decode cX1_fittingWords 17 = .ok (.invokevirtual 58, 3) := by decide +kernel
theorem dX1_fittingWords_20 : decode cX1_fittingWords 20 = .ok (.iconst 1, 1) := by decide +kernel
theorem dX1_fittingWords_21 : decode cX1_fittingWords 21 = .ok (.if_icmp .gt 9, 3) := by decide +kernel
theorem dX1_fittingWords_24 : decode cX1_fittingWords 24 = .ok (.iload_n 1, 1) := by decide +kernel
theorem dX1_fittingWords_25 : decode cX1_fittingWords 25 = .ok (.iconst 1, 1) := by decide +kernel
theorem dX1_fittingWords_26 : decode cX1_fittingWords 26 = .ok (.iload_n 2, 1) := by decide +kernel
theorem dX1_fittingWords_27 : decode cX1_fittingWords 27 = .ok (.ishl, 1) := by decide +kernel
theorem dX1_fittingWords_28 : decode cX1_fittingWords 28 = .ok (.ior, 1) := by decide +kernel
theorem dX1_fittingWords_29 : decode cX1_fittingWords 29 = .ok (.istore_n 1, 1) := by decide +kernel
theorem dX1_fittingWords_30 : decode cX1_fittingWords 30 = .ok (.iinc 2 1, 3) := by decide +kernel
theorem dX1_fittingWords_33 : decode cX1_fittingWords 33 = .ok (.goto (-29), 3) := by decide +kernel
theorem dX1_fittingWords_36 : decode cX1_fittingWords 36 = .ok (.iload_n 1, 1) := by decide +kernel
theorem dX1_fittingWords_37 : decode cX1_fittingWords 37 = .ok (.ireturn, 1) := by decide +kernel
theorem dX1_likeliest_0 : decode cX1_likeliest 0 = .ok (.iconst (-1), 1) := by decide +kernel
theorem dX1_likeliest_1 : decode cX1_likeliest 1 = .ok (.istore_n 1, 1) := by decide +kernel
theorem dX1_likeliest_2 : decode cX1_likeliest 2 = .ok (.iconst 2, 1) := by decide +kernel
theorem dX1_likeliest_3 : decode cX1_likeliest 3 = .ok (.istore_n 2, 1) := by decide +kernel
theorem dX1_likeliest_4 : decode cX1_likeliest 4 = .ok (.iconst 0, 1) := by decide +kernel
theorem dX1_likeliest_5 : decode cX1_likeliest 5 = .ok (.istore_n 3, 1) := by decide +kernel
theorem dX1_likeliest_6 : decode cX1_likeliest 6 = .ok (.iload_n 3, 1) := by decide +kernel
theorem dX1_likeliest_7 : decode cX1_likeliest 7 = .ok (.aload_n 0, 1) := by decide +kernel
theorem dX1_likeliest_8 : decode cX1_likeliest 8 = .ok (.getfield 22, 3) := by decide +kernel
theorem dX1_likeliest_11 : decode cX1_likeliest 11 = .ok (.getfield 30, 3) := by decide +kernel
theorem dX1_likeliest_14 : decode cX1_likeliest 14 = .ok (.if_icmp .ge 71, 3) := by decide +kernel
theorem dX1_likeliest_17 : decode cX1_likeliest 17 = .ok (.aload_n 0, 1) := by decide +kernel
theorem dX1_likeliest_18 : decode cX1_likeliest 18 = .ok (.iload_n 3, 1) := by decide +kernel
theorem dX1_likeliest_19 : decode cX1_likeliest 19 = .ok (.invokevirtual 58, 3) := by decide +kernel
theorem dX1_likeliest_22 : decode cX1_likeliest 22 = .ok (.istore 4, 2) := by decide +kernel
theorem dX1_likeliest_24 : decode cX1_likeliest 24 = .ok (.iload_n 1, 1) := by decide +kernel
theorem dX1_likeliest_25 : decode cX1_likeliest 25 = .ok (.iconst (-1), 1) := by decide +kernel
theorem dX1_likeliest_26 : decode cX1_likeliest 26 = .ok (.if_icmp .eq 34, 3) := by decide +kernel
theorem dX1_likeliest_29 : decode cX1_likeliest 29 = .ok (.iload 4, 2) := by decide +kernel
theorem dX1_likeliest_31 : decode cX1_likeliest 31 = .ok (.iload_n 2, 1) := by decide +kernel
theorem dX1_likeliest_32 : decode cX1_likeliest 32 = .ok (.if_icmp .ne 28, 3) := by decide +kernel
theorem dX1_likeliest_35 : decode cX1_likeliest 35 = .ok (.aload_n 0, 1) := by decide +kernel
theorem dX1_likeliest_36 : decode cX1_likeliest 36 = .ok (.getfield 22, 3) := by decide +kernel
theorem dX1_likeliest_39 : decode cX1_likeliest 39 = .ok (.getfield 61, 3) := by decide +kernel
theorem dX1_likeliest_42 : decode cX1_likeliest 42 = .ok (.iload_n 3, 1) := by decide +kernel
theorem dX1_likeliest_43 : decode cX1_likeliest 43 = .ok (.iaload, 1) := by decide +kernel
theorem dX1_likeliest_44 : decode cX1_likeliest 44 = .ok (.aload_n 0, 1) := by decide +kernel
theorem dX1_likeliest_45 : decode cX1_likeliest 45 = .ok (.getfield 22, 3) := by decide +kernel
theorem dX1_likeliest_48 : decode cX1_likeliest 48 = .ok (.getfield 61, 3) := by decide +kernel
theorem dX1_likeliest_51 : decode cX1_likeliest 51 = .ok (.iload_n 1, 1) := by decide +kernel
theorem dX1_likeliest_52 : decode cX1_likeliest 52 = .ok (.iaload, 1) := by decide +kernel
theorem dX1_likeliest_53 : decode cX1_likeliest 53 = .ok (.if_icmp .le 7, 3) := by decide +kernel
theorem dX1_likeliest_56 : decode cX1_likeliest 56 = .ok (.iconst 1, 1) := by decide +kernel
theorem dX1_likeliest_57 : decode cX1_likeliest 57 = .ok (.goto 4, 3) := by decide +kernel
theorem dX1_likeliest_60 : decode cX1_likeliest 60 = .ok (.iconst 0, 1) := by decide +kernel
theorem dX1_likeliest_61 : decode cX1_likeliest 61 = .ok (.istore 5, 2) := by decide +kernel
theorem dX1_likeliest_63 : decode cX1_likeliest 63 = .ok (.iload 4, 2) := by decide +kernel
theorem dX1_likeliest_65 : decode cX1_likeliest 65 = .ok (.iload_n 2, 1) := by decide +kernel
theorem dX1_likeliest_66 : decode cX1_likeliest 66 = .ok (.if_icmp .lt 8, 3) := by decide +kernel
theorem dX1_likeliest_69 : decode cX1_likeliest 69 = .ok (.iload 5, 2) := by decide +kernel
theorem dX1_likeliest_71 : decode cX1_likeliest 71 = .ok (.ifCond .eq 8, 3) := by decide +kernel
theorem dX1_likeliest_74 : decode cX1_likeliest 74 = .ok (.iload_n 3, 1) := by decide +kernel
theorem dX1_likeliest_75 : decode cX1_likeliest 75 = .ok (.istore_n 1, 1) := by decide +kernel
theorem dX1_likeliest_76 : decode cX1_likeliest 76 = .ok (.iload 4, 2) := by decide +kernel
theorem dX1_likeliest_78 : decode cX1_likeliest 78 = .ok (.istore_n 2, 1) := by decide +kernel
theorem dX1_likeliest_79 : decode cX1_likeliest 79 = .ok (.iinc 3 1, 3) := by decide +kernel
theorem dX1_likeliest_82 : decode cX1_likeliest 82 = .ok (.goto (-76), 3) := by decide +kernel
theorem dX1_likeliest_85 : decode cX1_likeliest 85 = .ok (.iload_n 1, 1) := by decide +kernel
theorem dX1_likeliest_86 : decode cX1_likeliest 86 = .ok (.ireturn, 1) := by decide +kernel
theorem dX1_placeToLook_0 : decode cX1_placeToLook 0 = .ok (.aload_n 0, 1) := by decide +kernel
theorem dX1_placeToLook_1 : decode cX1_placeToLook 1 = .ok (.invokevirtual 64, 3) := by decide +kernel
theorem dX1_placeToLook_4 : decode cX1_placeToLook 4 = .ok (.istore_n 1, 1) := by decide +kernel
theorem dX1_placeToLook_5 : decode cX1_placeToLook 5 = .ok (.iload_n 1, 1) := by decide +kernel
theorem dX1_placeToLook_6 : decode cX1_placeToLook 6 = .ok (.invokestatic 68, 3) := by decide +kernel
theorem dX1_placeToLook_9 : decode cX1_placeToLook 9 = .ok (.iconst 2, 1) := by decide +kernel
theorem dX1_placeToLook_10 : decode cX1_placeToLook 10 = .ok (.if_icmp .ge 5, 3) := by decide +kernel
theorem dX1_placeToLook_13 : decode cX1_placeToLook 13 = .ok (.iconst (-1), 1) := by decide +kernel
theorem dX1_placeToLook_14 : decode cX1_placeToLook 14 = .ok (.ireturn, 1) := by decide +kernel
theorem dX1_placeToLook_15 : decode cX1_placeToLook 15 = .ok (.iconst (-1), 1) := by decide +kernel
theorem dX1_placeToLook_16 : decode cX1_placeToLook 16 = .ok (.istore_n 2, 1) := by decide +kernel
theorem dX1_placeToLook_17 : decode cX1_placeToLook 17 = .ok (.bipush 9, 2) := by decide +kernel
theorem dX1_placeToLook_19 : decode cX1_placeToLook 19 = .ok (.istore_n 3, 1) := by decide +kernel
theorem dX1_placeToLook_20 : decode cX1_placeToLook 20 = .ok (.iconst 0, 1) := by decide +kernel
theorem dX1_placeToLook_21 : decode cX1_placeToLook 21 = .ok (.istore 4, 2) := by decide +kernel
theorem dX1_placeToLook_23 : decode cX1_placeToLook 23 = .ok (.iload 4, 2) := by decide +kernel
theorem dX1_placeToLook_25 : decode cX1_placeToLook 25 = .ok (.bipush 6, 2) := by decide +kernel
theorem dX1_placeToLook_27 : decode cX1_placeToLook 27 = .ok (.if_icmp .ge 30, 3) := by decide +kernel
theorem dX1_placeToLook_30 : decode cX1_placeToLook 30 = .ok (.aload_n 0, 1) := by decide +kernel
theorem dX1_placeToLook_31 : decode cX1_placeToLook 31 = .ok (.iload 4, 2) := by decide +kernel
theorem dX1_placeToLook_33 : decode cX1_placeToLook 33 = .ok (.iload_n 1, 1) := by decide +kernel
theorem dX1_placeToLook_34 : decode cX1_placeToLook 34 = .ok (.invokevirtual 73, 3) := by decide +kernel
theorem dX1_placeToLook_37 : decode cX1_placeToLook 37 = .ok (.istore 5, 2) := by decide +kernel
theorem dX1_placeToLook_39 : decode cX1_placeToLook 39 = .ok (.iload 5, 2) := by decide +kernel
theorem dX1_placeToLook_41 : decode cX1_placeToLook 41 = .ok (.iload_n 3, 1) := by decide +kernel
theorem dX1_placeToLook_42 : decode cX1_placeToLook 42 = .ok (.if_icmp .ge 9, 3) := by decide +kernel
theorem dX1_placeToLook_45 : decode cX1_placeToLook 45 = .ok (.iload 4, 2) := by decide +kernel
theorem dX1_placeToLook_47 : decode cX1_placeToLook 47 = .ok (.istore_n 2, 1) := by decide +kernel
theorem dX1_placeToLook_48 : decode cX1_placeToLook 48 = .ok (.iload 5, 2) := by decide +kernel
theorem dX1_placeToLook_50 : decode cX1_placeToLook 50 = .ok (.istore_n 3, 1) := by decide +kernel
theorem dX1_placeToLook_51 : decode cX1_placeToLook 51 = .ok (.iinc 4 1, 3) := by decide +kernel
theorem dX1_placeToLook_54 : decode cX1_placeToLook 54 = .ok (.goto (-31), 3) := by decide +kernel
theorem dX1_placeToLook_57 : decode cX1_placeToLook 57 = .ok (.iload_n 2, 1) := by decide +kernel
theorem dX1_placeToLook_58 : decode cX1_placeToLook 58 = .ok (.ireturn, 1) := by decide +kernel
theorem dX1_greatestPartAt_0 : decode cX1_greatestPartAt 0 = .ok (.aload_n 0, 1) := by decide +kernel
theorem dX1_greatestPartAt_1 : decode cX1_greatestPartAt 1 = .ok (.getfield 15, 3) := by decide +kernel
theorem dX1_greatestPartAt_4 : decode cX1_greatestPartAt 4 = .ok (.iconst 0, 1) := by decide +kernel
theorem dX1_greatestPartAt_5 : decode cX1_greatestPartAt 5 = .ok (.invokestatic 76, 3) := by decide +kernel
theorem dX1_greatestPartAt_8 : decode cX1_greatestPartAt 8 = .ok (.iconst 0, 1) := by decide +kernel
theorem dX1_greatestPartAt_9 : decode cX1_greatestPartAt 9 = .ok (.istore_n 3, 1) := by decide +kernel
theorem dX1_greatestPartAt_10 : decode cX1_greatestPartAt 10 = .ok (.iconst 0, 1) := by decide +kernel
theorem dX1_greatestPartAt_11 : decode cX1_greatestPartAt 11 = .ok (.istore 4, 2) := by decide +kernel
theorem dX1_greatestPartAt_13 : decode cX1_greatestPartAt 13 = .ok (.iload 4, 2) := by decide +kernel
theorem dX1_greatestPartAt_15 : decode cX1_greatestPartAt 15 = .ok (.aload_n 0, 1) := by decide +kernel
theorem dX1_greatestPartAt_16 : decode cX1_greatestPartAt 16 = .ok (.getfield 22, 3) := by decide +kernel
theorem dX1_greatestPartAt_19 : decode cX1_greatestPartAt 19 = .ok (.getfield 30, 3) := by decide +kernel
theorem dX1_greatestPartAt_22 : decode cX1_greatestPartAt 22 = .ok (.if_icmp .ge 56, 3) := by decide +kernel
theorem dX1_greatestPartAt_25 : decode cX1_greatestPartAt 25 = .ok (.iload_n 2, 1) := by decide +kernel
theorem dX1_greatestPartAt_26 : decode cX1_greatestPartAt 26 = .ok (.iload 4, 2) := by decide +kernel
theorem dX1_greatestPartAt_28 : decode cX1_greatestPartAt 28 = .ok (.ishr, 1) := by decide +kernel
theorem dX1_greatestPartAt_29 : decode cX1_greatestPartAt 29 = .ok (.iconst 1, 1) := by decide +kernel
theorem dX1_greatestPartAt_30 : decode cX1_greatestPartAt 30 = .ok (.iand, 1) := by decide +kernel
theorem dX1_greatestPartAt_31 : decode cX1_greatestPartAt 31 = .ok (.iconst 1, 1) := by decide +kernel
theorem dX1_greatestPartAt_32 : decode cX1_greatestPartAt 32 = .ok (.if_icmp .ne 40, 3) := by decide +kernel
theorem dX1_greatestPartAt_35 : decode cX1_greatestPartAt 35 = .ok (.aload_n 0, 1) := by decide +kernel
theorem dX1_greatestPartAt_36 : decode cX1_greatestPartAt 36 = .ok (.getfield 22, 3) := by decide +kernel
theorem dX1_greatestPartAt_39 : decode cX1_greatestPartAt 39 = .ok (.iload 4, 2) := by decide +kernel
theorem dX1_greatestPartAt_41 : decode cX1_greatestPartAt 41 = .ok (.iload_n 1, 1) := by decide +kernel
theorem dX1_greatestPartAt_42 : decode cX1_greatestPartAt 42 = .ok (.invokevirtual 54, 3) := by decide +kernel
theorem dX1_greatestPartAt_45 : decode cX1_greatestPartAt 45 = .ok (.iconst 1, 1) := by decide +kernel
theorem dX1_greatestPartAt_46 : decode cX1_greatestPartAt 46 = .ok (.iadd, 1) := by decide +kernel
theorem dX1_greatestPartAt_47 : decode cX1_greatestPartAt 47 = .ok (.istore 5, 2) := by decide +kernel
theorem dX1_greatestPartAt_49 : decode cX1_greatestPartAt 49 = .ok (.aload_n 0, 1) := by decide +kernel
theorem dX1_greatestPartAt_50 : decode cX1_greatestPartAt 50 = .ok (.getfield 15, 3) := by decide +kernel
theorem dX1_greatestPartAt_53 : decode cX1_greatestPartAt 53 = .ok (.iload 5, 2) := by decide +kernel
theorem dX1_greatestPartAt_55 : decode cX1_greatestPartAt 55 = .ok (.dup2, 1) := by decide +kernel
theorem dX1_greatestPartAt_56 : decode cX1_greatestPartAt 56 = .ok (.iaload, 1) := by decide +kernel
theorem dX1_greatestPartAt_57 : decode cX1_greatestPartAt 57 = .ok (.iconst 1, 1) := by decide +kernel
theorem dX1_greatestPartAt_58 : decode cX1_greatestPartAt 58 = .ok (.iadd, 1) := by decide +kernel
theorem dX1_greatestPartAt_59 : decode cX1_greatestPartAt 59 = .ok (.iastore, 1) := by decide +kernel
theorem dX1_greatestPartAt_60 : decode cX1_greatestPartAt 60 = .ok (.iload_n 3, 1) := by decide +kernel
theorem dX1_greatestPartAt_61 : decode cX1_greatestPartAt 61 = .ok (.aload_n 0, 1) := by decide +kernel
theorem dX1_greatestPartAt_62 : decode cX1_greatestPartAt 62 = .ok (.getfield 15, 3) := by decide +kernel
theorem dX1_greatestPartAt_65 : decode cX1_greatestPartAt 65 = .ok (.iload 5, 2) := by decide +kernel
theorem dX1_greatestPartAt_67 : decode cX1_greatestPartAt 67 = .ok (.iaload, 1) := by decide +kernel
theorem dX1_greatestPartAt_68 : decode cX1_greatestPartAt 68 = .ok (.invokestatic 82, 3) := by decide +kernel
theorem dX1_greatestPartAt_71 : decode cX1_greatestPartAt 71 = .ok (.istore_n 3, 1) := by decide +kernel
theorem dX1_greatestPartAt_72 : decode cX1_greatestPartAt 72 = .ok (.iinc 4 1, 3) := by decide +kernel
theorem dX1_greatestPartAt_75 : decode cX1_greatestPartAt 75 = .ok (.goto (-62), 3) := by decide +kernel
theorem dX1_greatestPartAt_78 : decode cX1_greatestPartAt 78 = .ok (.iload_n 3, 1) := by decide +kernel
theorem dX1_greatestPartAt_79 : decode cX1_greatestPartAt 79 = .ok (.ireturn, 1) := by decide +kernel
theorem dX1_fitsSet_0 : decode cX1_fitsSet 0 = .ok (.iconst 0, 1) := by decide +kernel
theorem dX1_fitsSet_1 : decode cX1_fitsSet 1 = .ok (.istore_n 2, 1) := by decide +kernel
theorem dX1_fitsSet_2 : decode cX1_fitsSet 2 = .ok (.iload_n 2, 1) := by decide +kernel
theorem dX1_fitsSet_3 : decode cX1_fitsSet 3 = .ok (.aload_n 0, 1) := by decide +kernel
theorem dX1_fitsSet_4 : decode cX1_fitsSet 4 = .ok (.getfield 41, 3) := by decide +kernel
theorem dX1_fitsSet_7 : decode cX1_fitsSet 7 = .ok (.if_icmp .ge 32, 3) := by decide +kernel
theorem dX1_fitsSet_10 : decode cX1_fitsSet 10 = .ok (.aload_n 0, 1) := by decide +kernel
theorem dX1_fitsSet_11 : decode cX1_fitsSet 11 = .ok (.getfield 22, 3) := by decide +kernel
theorem dX1_fitsSet_14 : decode cX1_fitsSet 14 = .ok (.aload_n 0, 1) := by decide +kernel
theorem dX1_fitsSet_15 : decode cX1_fitsSet 15 = .ok (.iload_n 2, 1) := by decide +kernel
theorem dX1_fitsSet_16 : decode cX1_fitsSet 16 = .ok (.invokevirtual 44, 3) := by decide +kernel
theorem dX1_fitsSet_19 : decode cX1_fitsSet 19 = .ok (.iload_n 1, 1) := by decide +kernel
theorem dX1_fitsSet_20 : decode cX1_fitsSet 20 = .ok (.invokevirtual 87, 3) := by decide +kernel
theorem dX1_fitsSet_23 : decode cX1_fitsSet 23 = .ok (.aload_n 0, 1) := by decide +kernel
theorem dX1_fitsSet_24 : decode cX1_fitsSet 24 = .ok (.iload_n 2, 1) := by decide +kernel
theorem dX1_fitsSet_25 : decode cX1_fitsSet 25 = .ok (.invokevirtual 48, 3) := by decide +kernel
theorem dX1_fitsSet_28 : decode cX1_fitsSet 28 = .ok (.if_icmp .eq 5, 3) := by decide +kernel
theorem dX1_fitsSet_31 : decode cX1_fitsSet 31 = .ok (.iconst 0, 1) := by decide +kernel
theorem dX1_fitsSet_32 : decode cX1_fitsSet 32 = .ok (.ireturn, 1) := by decide +kernel
theorem dX1_fitsSet_33 : decode cX1_fitsSet 33 = .ok (.iinc 2 1, 3) := by decide +kernel
theorem dX1_fitsSet_36 : decode cX1_fitsSet 36 = .ok (.goto (-34), 3) := by decide +kernel
theorem dX1_fitsSet_39 : decode cX1_fitsSet 39 = .ok (.iconst 1, 1) := by decide +kernel
theorem dX1_fitsSet_40 : decode cX1_fitsSet 40 = .ok (.ireturn, 1) := by decide +kernel
theorem dX1_findSets_0 : decode cX1_findSets 0 = .ok (.aload_n 0, 1) := by decide +kernel
theorem dX1_findSets_1 : decode cX1_findSets 1 = .ok (.iconst 0, 1) := by decide +kernel
theorem dX1_findSets_2 : decode cX1_findSets 2 = .ok (.putfield 90, 3) := by decide +kernel
theorem dX1_findSets_5 : decode cX1_findSets 5 = .ok (.iconst 0, 1) := by decide +kernel
theorem dX1_findSets_6 : decode cX1_findSets 6 = .ok (.istore_n 1, 1) := by decide +kernel
theorem dX1_findSets_7 : decode cX1_findSets 7 = .ok (.iload_n 1, 1) := by decide +kernel
theorem dX1_findSets_8 : decode cX1_findSets 8 = .ok (.sipush 256, 3) := by decide +kernel
theorem dX1_findSets_11 : decode cX1_findSets 11 = .ok (.if_icmp .ge 37, 3) := by decide +kernel
theorem dX1_findSets_14 : decode cX1_findSets 14 = .ok (.aload_n 0, 1) := by decide +kernel
theorem dX1_findSets_15 : decode cX1_findSets 15 = .ok (.iload_n 1, 1) := by decide +kernel
theorem dX1_findSets_16 : decode cX1_findSets 16 = .ok (.invokevirtual 93, 3) := by decide +kernel
theorem dX1_findSets_19 : decode cX1_findSets 19 = .ok (.ifCond .eq 23, 3) := by decide +kernel
theorem dX1_findSets_22 : decode cX1_findSets 22 = .ok (.aload_n 0, 1) := by decide +kernel
theorem dX1_findSets_23 : decode cX1_findSets 23 = .ok (.getfield 9, 3) := by decide +kernel
theorem dX1_findSets_26 : decode cX1_findSets 26 = .ok (.aload_n 0, 1) := by decide +kernel
theorem dX1_findSets_27 : decode cX1_findSets 27 = .ok (.getfield 90, 3) := by decide +kernel
theorem dX1_findSets_30 : decode cX1_findSets 30 = .ok (.iload_n 1, 1) := by decide +kernel
theorem dX1_findSets_31 : decode cX1_findSets 31 = .ok (.iastore, 1) := by decide +kernel
theorem dX1_findSets_32 : decode cX1_findSets 32 = .ok (.aload_n 0, 1) := by decide +kernel
theorem dX1_findSets_33 : decode cX1_findSets 33 = .ok (.dup, 1) := by decide +kernel
theorem dX1_findSets_34 : decode cX1_findSets 34 = .ok (.getfield 90, 3) := by decide +kernel
theorem dX1_findSets_37 : decode cX1_findSets 37 = .ok (.iconst 1, 1) := by decide +kernel
theorem dX1_findSets_38 : decode cX1_findSets 38 = .ok (.iadd, 1) := by decide +kernel
theorem dX1_findSets_39 : decode cX1_findSets 39 = .ok (.putfield 90, 3) := by decide +kernel
theorem dX1_findSets_42 : decode cX1_findSets 42 = .ok (.iinc 1 1, 3) := by decide +kernel
theorem dX1_findSets_45 : decode cX1_findSets 45 = .ok (.goto (-38), 3) := by decide +kernel
theorem dX1_findSets_48 : decode cX1_findSets 48 = .ok (.aload_n 0, 1) := by decide +kernel
theorem dX1_findSets_49 : decode cX1_findSets 49 = .ok (.getfield 90, 3) := by decide +kernel
theorem dX1_findSets_52 : decode cX1_findSets 52 = .ok (.ireturn, 1) := by decide +kernel
theorem dX1_leastSet_0 : decode cX1_leastSet 0 = .ok (.aload_n 0, 1) := by decide +kernel
theorem dX1_leastSet_1 : decode cX1_leastSet 1 = .ok (.getfield 90, 3) := by decide +kernel
theorem dX1_leastSet_4 : decode cX1_leastSet 4 = .ok (.ifCond .le 12, 3) := by decide +kernel
theorem dX1_leastSet_7 : decode cX1_leastSet 7 = .ok (.aload_n 0, 1) := by decide +kernel
theorem dX1_leastSet_8 : decode cX1_leastSet 8 = .ok (.getfield 9, 3) := by decide +kernel
theorem dX1_leastSet_11 : decode cX1_leastSet 11 = .ok (.iconst 0, 1) := by decide +kernel
theorem dX1_leastSet_12 : decode cX1_leastSet 12 = .ok (.iaload, 1) := by decide +kernel
theorem dX1_leastSet_13 : decode cX1_leastSet 13 = .ok (.goto 4, 3) := by decide +kernel
theorem dX1_leastSet_16 : decode cX1_leastSet 16 = .ok (.iconst (-1), 1) := by decide +kernel
theorem dX1_leastSet_17 : decode cX1_leastSet 17 = .ok (.ireturn, 1) := by decide +kernel
theorem dX1_wordToAsk_0 : decode cX1_wordToAsk 0 = .ok (.aload_n 0, 1) := by decide +kernel
theorem dX1_wordToAsk_1 : decode cX1_wordToAsk 1 = .ok (.getfield 90, 3) := by decide +kernel
theorem dX1_wordToAsk_4 : decode cX1_wordToAsk 4 = .ok (.iconst 2, 1) := by decide +kernel
theorem dX1_wordToAsk_5 : decode cX1_wordToAsk 5 = .ok (.if_icmp .ge 5, 3) := by decide +kernel
theorem dX1_wordToAsk_8 : decode cX1_wordToAsk 8 = .ok (.iconst (-1), 1) := by decide +kernel
theorem dX1_wordToAsk_9 : decode cX1_wordToAsk 9 = .ok (.ireturn, 1) := by decide +kernel
theorem dX1_wordToAsk_10 : decode cX1_wordToAsk 10 = .ok (.iconst (-1), 1) := by decide +kernel
theorem dX1_wordToAsk_11 : decode cX1_wordToAsk 11 = .ok (.istore_n 1, 1) := by decide +kernel
theorem dX1_wordToAsk_12 : decode cX1_wordToAsk 12 = .ok (.sipush 257, 3) := by decide +kernel
theorem dX1_wordToAsk_15 : decode cX1_wordToAsk 15 = .ok (.istore_n 2, 1) := by decide +kernel
theorem dX1_wordToAsk_16 : decode cX1_wordToAsk 16 = .ok (.iconst 0, 1) := by decide +kernel
theorem dX1_wordToAsk_17 : decode cX1_wordToAsk 17 = .ok (.istore_n 3, 1) := by decide +kernel
theorem dX1_wordToAsk_18 : decode cX1_wordToAsk 18 = .ok (.iload_n 3, 1) := by decide +kernel
theorem dX1_wordToAsk_19 : decode cX1_wordToAsk 19 = .ok (.aload_n 0, 1) := by decide +kernel
theorem dX1_wordToAsk_20 : decode cX1_wordToAsk 20 = .ok (.getfield 22, 3) := by decide +kernel
theorem dX1_wordToAsk_23 : decode cX1_wordToAsk 23 = .ok (.getfield 30, 3) := by decide +kernel
theorem dX1_wordToAsk_26 : decode cX1_wordToAsk 26 = .ok (.if_icmp .ge 27, 3) := by decide +kernel
theorem dX1_wordToAsk_29 : decode cX1_wordToAsk 29 = .ok (.aload_n 0, 1) := by decide +kernel
theorem dX1_wordToAsk_30 : decode cX1_wordToAsk 30 = .ok (.iload_n 3, 1) := by decide +kernel
theorem dX1_wordToAsk_31 : decode cX1_wordToAsk 31 = .ok (.invokevirtual 97, 3) := by decide +kernel
theorem dX1_wordToAsk_34 : decode cX1_wordToAsk 34 = .ok (.istore 4, 2) := by decide +kernel
theorem dX1_wordToAsk_36 : decode cX1_wordToAsk 36 = .ok (.iload 4, 2) := by decide +kernel
theorem dX1_wordToAsk_38 : decode cX1_wordToAsk 38 = .ok (.iload_n 2, 1) := by decide +kernel
theorem dX1_wordToAsk_39 : decode cX1_wordToAsk 39 = .ok (.if_icmp .ge 8, 3) := by decide +kernel
theorem dX1_wordToAsk_42 : decode cX1_wordToAsk 42 = .ok (.iload_n 3, 1) := by decide +kernel
theorem dX1_wordToAsk_43 : decode cX1_wordToAsk 43 = .ok (.istore_n 1, 1) := by decide +kernel
theorem dX1_wordToAsk_44 : decode cX1_wordToAsk 44 = .ok (.iload 4, 2) := by decide +kernel
theorem dX1_wordToAsk_46 : decode cX1_wordToAsk 46 = .ok (.istore_n 2, 1) := by decide +kernel
theorem dX1_wordToAsk_47 : decode cX1_wordToAsk 47 = .ok (.iinc 3 1, 3) := by decide +kernel
theorem dX1_wordToAsk_50 : decode cX1_wordToAsk 50 = .ok (.goto (-32), 3) := by decide +kernel
theorem dX1_wordToAsk_53 : decode cX1_wordToAsk 53 = .ok (.iload_n 1, 1) := by decide +kernel
theorem dX1_wordToAsk_54 : decode cX1_wordToAsk 54 = .ok (.ireturn, 1) := by decide +kernel
theorem dX1_greatestPartOf_0 : decode cX1_greatestPartOf 0 = .ok (.aload_n 0, 1) := by decide +kernel
theorem dX1_greatestPartOf_1 : decode cX1_greatestPartOf 1 = .ok (.getfield 15, 3) := by decide +kernel
theorem dX1_greatestPartOf_4 : decode cX1_greatestPartOf 4 = .ok (.iconst 0, 1) := by decide +kernel
theorem dX1_greatestPartOf_5 : decode cX1_greatestPartOf 5 = .ok (.invokestatic 76, 3) := by decide +kernel
theorem dX1_greatestPartOf_8 : decode cX1_greatestPartOf 8 = .ok (.iconst 0, 1) := by decide +kernel
theorem dX1_greatestPartOf_9 : decode cX1_greatestPartOf 9 = .ok (.istore_n 2, 1) := by decide +kernel
theorem dX1_greatestPartOf_10 : decode cX1_greatestPartOf 10 = .ok (.iconst 0, 1) := by decide +kernel
theorem dX1_greatestPartOf_11 : decode cX1_greatestPartOf 11 = .ok (.istore_n 3, 1) := by decide +kernel
theorem dX1_greatestPartOf_12 : decode cX1_greatestPartOf 12 = .ok (.iload_n 3, 1) := by decide +kernel
theorem dX1_greatestPartOf_13 : decode cX1_greatestPartOf 13 = .ok (.aload_n 0, 1) := by decide +kernel
theorem dX1_greatestPartOf_14 : decode cX1_greatestPartOf 14 = .ok (.getfield 90, 3) := by decide +kernel
theorem dX1_greatestPartOf_17 : decode cX1_greatestPartOf 17 = .ok (.if_icmp .ge 48, 3) := by decide +kernel
theorem dX1_greatestPartOf_20 : decode cX1_greatestPartOf 20 = .ok (.aload_n 0, 1) := by decide +kernel
theorem dX1_greatestPartOf_21 : decode cX1_greatestPartOf 21 = .ok (.getfield 22, 3) := by decide +kernel
theorem dX1_greatestPartOf_24 : decode cX1_greatestPartOf 24 = .ok (.iload_n 1, 1) := by decide +kernel
theorem dX1_greatestPartOf_25 : decode cX1_greatestPartOf 25 = .ok (.aload_n 0, 1) := by decide +kernel
theorem dX1_greatestPartOf_26 : decode cX1_greatestPartOf 26 = .ok (.getfield 9, 3) := by decide +kernel
theorem dX1_greatestPartOf_29 : decode cX1_greatestPartOf 29 = .ok (.iload_n 3, 1) := by decide +kernel
theorem dX1_greatestPartOf_30 : decode cX1_greatestPartOf 30 = .ok (.iaload, 1) := by decide +kernel
theorem dX1_greatestPartOf_31 : decode cX1_greatestPartOf 31 = .ok (.invokevirtual 87, 3) := by decide +kernel
theorem dX1_greatestPartOf_34 : decode cX1_greatestPartOf 34 = .ok (.istore 4, 2) := by decide +kernel
theorem dX1_greatestPartOf_36 : decode cX1_greatestPartOf 36 = .ok (.aload_n 0, 1) := by decide +kernel
theorem dX1_greatestPartOf_37 : decode cX1_greatestPartOf 37 = .ok (.getfield 15, 3) := by decide +kernel
theorem dX1_greatestPartOf_40 : decode cX1_greatestPartOf 40 = .ok (.iload 4, 2) := by decide +kernel
theorem dX1_greatestPartOf_42 : decode cX1_greatestPartOf 42 = .ok (.dup2, 1) := by decide +kernel
theorem dX1_greatestPartOf_43 : decode cX1_greatestPartOf 43 = .ok (.iaload, 1) := by decide +kernel
theorem dX1_greatestPartOf_44 : decode cX1_greatestPartOf 44 = .ok (.iconst 1, 1) := by decide +kernel
theorem dX1_greatestPartOf_45 : decode cX1_greatestPartOf 45 = .ok (.iadd, 1) := by decide +kernel
theorem dX1_greatestPartOf_46 : decode cX1_greatestPartOf 46 = .ok (.iastore, 1) := by decide +kernel
theorem dX1_greatestPartOf_47 : decode cX1_greatestPartOf 47 = .ok (.iload_n 2, 1) := by decide +kernel
theorem dX1_greatestPartOf_48 : decode cX1_greatestPartOf 48 = .ok (.aload_n 0, 1) := by decide +kernel
theorem dX1_greatestPartOf_49 : decode cX1_greatestPartOf 49 = .ok (.getfield 15, 3) := by decide +kernel
theorem dX1_greatestPartOf_52 : decode cX1_greatestPartOf 52 = .ok (.iload 4, 2) := by decide +kernel
theorem dX1_greatestPartOf_54 : decode cX1_greatestPartOf 54 = .ok (.iaload, 1) := by decide +kernel
theorem dX1_greatestPartOf_55 : decode cX1_greatestPartOf 55 = .ok (.invokestatic 82, 3) := by decide +kernel
theorem dX1_greatestPartOf_58 : decode cX1_greatestPartOf 58 = .ok (.istore_n 2, 1) := by decide +kernel
theorem dX1_greatestPartOf_59 : decode cX1_greatestPartOf 59 = .ok (.iinc 3 1, 3) := by decide +kernel
theorem dX1_greatestPartOf_62 : decode cX1_greatestPartOf 62 = .ok (.goto (-50), 3) := by decide +kernel
theorem dX1_greatestPartOf_65 : decode cX1_greatestPartOf 65 = .ok (.iload_n 2, 1) := by decide +kernel
theorem dX1_greatestPartOf_66 : decode cX1_greatestPartOf 66 = .ok (.ireturn, 1) := by decide +kernel
theorem dX1_fittingWriters_0 : decode cX1_fittingWriters 0 = .ok (.iconst 0, 1) := by decide +kernel
theorem dX1_fittingWriters_1 : decode cX1_fittingWriters 1 = .ok (.istore_n 1, 1) := by decide +kernel
theorem dX1_fittingWriters_2 : decode cX1_fittingWriters 2 = .ok (.iconst 0, 1) := by decide +kernel
theorem dX1_fittingWriters_3 : decode cX1_fittingWriters 3 = .ok (.istore_n 2, 1) := by decide +kernel
theorem dX1_fittingWriters_4 : decode cX1_fittingWriters 4 = .ok (.iload_n 2, 1) := by decide +kernel
theorem dX1_fittingWriters_5 : decode cX1_fittingWriters 5 = .ok (.aload_n 0, 1) := by decide +kernel
theorem dX1_fittingWriters_6 : decode cX1_fittingWriters 6 = .ok (.getfield 22, 3) := by decide +kernel
theorem dX1_fittingWriters_9 : decode cX1_fittingWriters 9 = .ok (.getfield 100, 3) := by decide +kernel
theorem dX1_fittingWriters_12 : decode cX1_fittingWriters 12 = .ok (.if_icmp .ge 31, 3) := by decide +kernel
theorem dX1_fittingWriters_15 : decode cX1_fittingWriters 15 = .ok (.aload_n 0, 1) := by decide +kernel
theorem dX1_fittingWriters_16 : decode cX1_fittingWriters 16 = .ok (.aload_n 0, 1) := by decide +kernel
theorem dX1_fittingWriters_17 : decode cX1_fittingWriters 17 = .ok (.getfield 22, 3) := by decide +kernel
theorem dX1_fittingWriters_20 : decode cX1_fittingWriters 20 = .ok (.getfield 103, 3) := by decide +kernel
theorem dX1_fittingWriters_23 : decode cX1_fittingWriters 23 = .ok (.iload_n 2, 1) := by decide +kernel
theorem dX1_fittingWriters_24 : decode cX1_fittingWriters 24 = .ok (.iaload, 1) := by decide +kernel
theorem dX1_fittingWriters_25 : decode cX1_fittingWriters 25 = .ok (.invokevirtual 93, 3) := by decide +kernel
theorem dX1_fittingWriters_28 : decode cX1_fittingWriters 28 = .ok (.ifCond .eq 9, 3) := by decide +kernel
theorem dX1_fittingWriters_31 : decode cX1_fittingWriters 31 = .ok (.iload_n 1, 1) := by decide +kernel
theorem dX1_fittingWriters_32 : decode cX1_fittingWriters 32 = .ok (.iconst 1, 1) := by decide +kernel
theorem dX1_fittingWriters_33 : decode cX1_fittingWriters 33 = .ok (.iload_n 2, 1) := by decide +kernel
theorem dX1_fittingWriters_34 : decode cX1_fittingWriters 34 = .ok (.ishl, 1) := by decide +kernel
theorem dX1_fittingWriters_35 : decode cX1_fittingWriters 35 = .ok (.ior, 1) := by decide +kernel
theorem dX1_fittingWriters_36 : decode cX1_fittingWriters 36 = .ok (.istore_n 1, 1) := by decide +kernel
theorem dX1_fittingWriters_37 : decode cX1_fittingWriters 37 = .ok (.iinc 2 1, 3) := by decide +kernel
theorem dX1_fittingWriters_40 : decode cX1_fittingWriters 40 = .ok (.goto (-36), 3) := by decide +kernel
theorem dX1_fittingWriters_43 : decode cX1_fittingWriters 43 = .ok (.iload_n 1, 1) := by decide +kernel
theorem dX1_fittingWriters_44 : decode cX1_fittingWriters 44 = .ok (.ireturn, 1) := by decide +kernel
theorem dX2_init_0 : decode cX2_init 0 = .ok (.aload_n 0, 1) := by decide +kernel
theorem dX2_init_1 : decode cX2_init 1 = .ok (.invokespecial 3, 3) := by decide +kernel
theorem dX2_init_4 : decode cX2_init 4 = .ok (.aload_n 0, 1) := by decide +kernel
theorem dX2_init_5 : decode cX2_init 5 = .ok (.aload_n 1, 1) := by decide +kernel
theorem dX2_init_6 : decode cX2_init 6 = .ok (.putfield 9, 3) := by decide +kernel
theorem dX2_init_9 : decode cX2_init 9 = .ok (.aload_n 0, 1) := by decide +kernel
theorem dX2_init_10 : decode cX2_init 10 = .ok (.aload_n 2, 1) := by decide +kernel
theorem dX2_init_11 : decode cX2_init 11 = .ok (.putfield 15, 3) := by decide +kernel
theorem dX2_init_14 : decode cX2_init 14 = .ok (.return_, 1) := by decide +kernel
theorem dX2_readsText_0 : decode cX2_readsText 0 = .ok (.aload_n 0, 1) := by decide +kernel
theorem dX2_readsText_1 : decode cX2_readsText 1 = .ok (.getfield 9, 3) := by decide +kernel
theorem dX2_readsText_4 : decode cX2_readsText 4 = .ok (.invokevirtual 19, 3) := by decide +kernel
theorem dX2_readsText_7 : decode cX2_readsText 7 = .ok (.aload_n 0, 1) := by decide +kernel
theorem dX2_readsText_8 : decode cX2_readsText 8 = .ok (.getfield 9, 3) := by decide +kernel
theorem dX2_readsText_11 : decode cX2_readsText 11 = .ok (.getfield 24, 3) := by decide +kernel
theorem dX2_readsText_14 : decode cX2_readsText 14 = .ok (.ifCond .ne 5, 3) := by decide +kernel
theorem dX2_readsText_17 : decode cX2_readsText 17 = .ok (.iconst 1, 1) := by decide +kernel
theorem dX2_readsText_18 : decode cX2_readsText 18 = .ok (.ireturn, 1) := by decide +kernel
theorem dX2_readsText_19 : decode cX2_readsText 19 = .ok (.iconst 0, 1) := by decide +kernel
theorem dX2_readsText_20 : decode cX2_readsText 20 = .ok (.istore_n 1, 1) := by decide +kernel
theorem dX2_readsText_21 : decode cX2_readsText 21 = .ok (.iload_n 1, 1) := by decide +kernel
theorem dX2_readsText_22 : decode cX2_readsText 22 = .ok (.bipush 14, 2) := by decide +kernel
theorem dX2_readsText_24 : decode cX2_readsText 24 = .ok (.if_icmp .ge 50, 3) := by decide +kernel
theorem dX2_readsText_27 : decode cX2_readsText 27 = .ok (.aload_n 0, 1) := by decide +kernel
theorem dX2_readsText_28 : decode cX2_readsText 28 = .ok (.invokevirtual 28, 3) := by decide +kernel
theorem dX2_readsText_31 : decode cX2_readsText 31 = .ok (.ifCond .ne 5, 3) := by decide +kernel
theorem dX2_readsText_34 : decode cX2_readsText 34 = .ok (.iconst 0, 1) := by decide +kernel
theorem dX2_readsText_35 : decode cX2_readsText 35 = .ok (.ireturn, 1) := by decide +kernel
theorem dX2_readsText_36 : decode cX2_readsText 36 = .ok (.aload_n 0, 1) := by decide +kernel
theorem dX2_readsText_37 : decode cX2_readsText 37 = .ok (.getfield 9, 3) := by decide +kernel
theorem dX2_readsText_40 : decode cX2_readsText 40 = .ok (.getfield 24, 3) := by decide +kernel
theorem dX2_readsText_43 : decode cX2_readsText 43 = .ok (.ifCond .ne 5, 3) := by decide +kernel
theorem dX2_readsText_46 : decode cX2_readsText 46 = .ok (.iconst 1, 1) := by decide +kernel
theorem dX2_readsText_47 : decode cX2_readsText 47 = .ok (.ireturn, 1) := by decide +kernel
theorem dX2_readsText_48 : decode cX2_readsText 48 = .ok (.aload_n 0, 1) := by decide +kernel
theorem dX2_readsText_49 : decode cX2_readsText 49 = .ok (.getfield 9, 3) := by decide +kernel
theorem dX2_readsText_52 : decode cX2_readsText 52 = .ok (.bipush 59, 2) := by decide +kernel
theorem dX2_readsText_54 : decode cX2_readsText 54 = .ok (.invokevirtual 32, 3) := by decide +kernel
theorem dX2_readsText_57 : decode cX2_readsText 57 = .ok (.ifCond .ne 11, 3) := by decide +kernel
theorem dX2_readsText_60 : decode cX2_readsText 60 = .ok (.aload_n 0, 1) := by decide +kernel
theorem dX2_readsText_61 : decode cX2_readsText 61 = .ok (.getfield 9, 3) := by decide +kernel
theorem dX2_readsText_64 : decode cX2_readsText 64 = .ok (.invokevirtual 36, 3) := by decide +kernel
theorem dX2_readsText_67 : decode cX2_readsText 67 = .ok (.ireturn, 1) := by decide +kernel
theorem dX2_readsText_68 : decode cX2_readsText 68 = .ok (.iinc 1 1, 3) := by decide +kernel
theorem dX2_readsText_71 : decode cX2_readsText 71 = .ok (.goto (-50), 3) := by decide +kernel
theorem dX2_readsText_74 : decode cX2_readsText 74 = .ok (.aload_n 0, 1) := by decide +kernel
theorem dX2_readsText_75 : decode cX2_readsText 75 = .ok (.getfield 9, 3) := by decide +kernel
theorem dX2_readsText_78 : decode cX2_readsText 78 = .ok (.invokevirtual 36, 3) := by decide +kernel
theorem dX2_readsText_81 : decode cX2_readsText 81 = .ok (.ireturn, 1) := by decide +kernel
theorem dX2_readsLine_0 : decode cX2_readsLine 0 = .ok (.aload_n 0, 1) := by decide +kernel
theorem dX2_readsLine_1 : decode cX2_readsLine 1 = .ok (.getfield 9, 3) := by decide +kernel
theorem dX2_readsLine_4 : decode cX2_readsLine 4 = .ok (.ldc 39, 2) := by decide +kernel
theorem dX2_readsLine_6 : decode cX2_readsLine 6 = .ok (.invokevirtual 41, 3) := by decide +kernel
theorem dX2_readsLine_9 : decode cX2_readsLine 9 = .ok (.ifCond .eq 8, 3) := by decide +kernel
theorem dX2_readsLine_12 : decode cX2_readsLine 12 = .ok (.aload_n 0, 1) := by decide +kernel
theorem dX2_readsLine_13 : decode cX2_readsLine 13 = .ok (.invokevirtual 45, 3) := by decide +kernel
theorem dX2_readsLine_16 : decode cX2_readsLine 16 = .ok (.ireturn, 1) := by decide +kernel
theorem dX2_readsLine_17 : decode cX2_readsLine 17 = .ok (.aload_n 0, 1) := by decide +kernel
theorem dX2_readsLine_18 : decode cX2_readsLine 18 = .ok (.getfield 9, 3) := by decide +kernel
theorem dX2_readsLine_21 : decode cX2_readsLine 21 = .ok (.ldc 48, 2) := by decide +kernel
theorem dX2_readsLine_23 : decode cX2_readsLine 23 = .ok (.invokevirtual 41, 3) := by decide +kernel
theorem dX2_readsLine_26 : decode cX2_readsLine 26 = .ok (.ifCond .eq 8, 3) := by decide +kernel
theorem dX2_readsLine_29 : decode cX2_readsLine 29 = .ok (.aload_n 0, 1) := by decide +kernel
theorem dX2_readsLine_30 : decode cX2_readsLine 30 = .ok (.invokevirtual 50, 3) := by decide +kernel
theorem dX2_readsLine_33 : decode cX2_readsLine 33 = .ok (.ireturn, 1) := by decide +kernel
theorem dX2_readsLine_34 : decode cX2_readsLine 34 = .ok (.aload_n 0, 1) := by decide +kernel
theorem dX2_readsLine_35 : decode cX2_readsLine 35 = .ok (.getfield 9, 3) := by decide +kernel
theorem dX2_readsLine_38 : decode cX2_readsLine 38 = .ok (.ldc 53, 2) := by decide +kernel
theorem dX2_readsLine_40 : decode cX2_readsLine 40 = .ok (.invokevirtual 55, 3) := by decide +kernel
theorem dX2_readsLine_43 : decode cX2_readsLine 43 = .ok (.ifCond .eq 8, 3) := by decide +kernel
theorem dX2_readsLine_46 : decode cX2_readsLine 46 = .ok (.aload_n 0, 1) := by decide +kernel
theorem dX2_readsLine_47 : decode cX2_readsLine 47 = .ok (.invokevirtual 58, 3) := by decide +kernel
theorem dX2_readsLine_50 : decode cX2_readsLine 50 = .ok (.ireturn, 1) := by decide +kernel
theorem dX2_readsLine_51 : decode cX2_readsLine 51 = .ok (.aload_n 0, 1) := by decide +kernel
theorem dX2_readsLine_52 : decode cX2_readsLine 52 = .ok (.getfield 9, 3) := by decide +kernel
theorem dX2_readsLine_55 : decode cX2_readsLine 55 = .ok (.ldc 61, 2) := by decide +kernel
theorem dX2_readsLine_57 : decode cX2_readsLine 57 = .ok (.invokevirtual 55, 3) := by decide +kernel
theorem dX2_readsLine_60 : decode cX2_readsLine 60 = .ok (.ifCond .eq 37, 3) := by decide +kernel
theorem dX2_readsLine_63 : decode cX2_readsLine 63 = .ok (.aload_n 0, 1) := by decide +kernel
theorem dX2_readsLine_64 : decode cX2_readsLine 64 = .ok (.getfield 15, 3) := by decide +kernel
theorem dX2_readsLine_67 : decode cX2_readsLine 67 = .ok (.aload_n 0, 1) := by decide +kernel
theorem dX2_readsLine_68 : decode cX2_readsLine 68 = .ok (.getfield 9, 3) := by decide +kernel
theorem dX2_readsLine_71 : decode cX2_readsLine 71 = .ok (.iconst 1, 1) := by decide +kernel
theorem dX2_readsLine_72 : decode cX2_readsLine 72 = .ok (.bipush 9, 2) := by decide +kernel
theorem dX2_readsLine_74 : decode cX2_readsLine 74 = .ok (.invokevirtual 63, 3) := by decide +kernel
theorem dX2_readsLine_77 : decode cX2_readsLine 77 = .ok (.putfield 67, 3) := by decide +kernel
theorem dX2_readsLine_80 : decode cX2_readsLine 80 = .ok (.aload_n 0, 1) := by decide +kernel
theorem dX2_readsLine_81 : decode cX2_readsLine 81 = .ok (.getfield 15, 3) := by decide +kernel
theorem dX2_readsLine_84 : decode cX2_readsLine 84 = .ok (.getfield 67, 3) := by decide +kernel
theorem dX2_readsLine_87 : decode cX2_readsLine 87 = .ok (.iconst (-1), 1) := by decide +kernel
theorem dX2_readsLine_88 : decode cX2_readsLine 88 = .ok (.if_icmp .eq 7, 3) := by decide +kernel
theorem dX2_readsLine_91 : decode cX2_readsLine 91 = .ok (.iconst 1, 1) := by decide +kernel
theorem dX2_readsLine_92 : decode cX2_readsLine 92 = .ok (.goto 4, 3) := by decide +kernel
theorem dX2_readsLine_95 : decode cX2_readsLine 95 = .ok (.iconst 0, 1) := by decide +kernel
theorem dX2_readsLine_96 : decode cX2_readsLine 96 = .ok (.ireturn, 1) := by decide +kernel
theorem dX2_readsLine_97 : decode cX2_readsLine 97 = .ok (.aload_n 0, 1) := by decide +kernel
theorem dX2_readsLine_98 : decode cX2_readsLine 98 = .ok (.getfield 9, 3) := by decide +kernel
theorem dX2_readsLine_101 : decode cX2_readsLine 101 = .ok (.ldc 71, 2) := by decide +kernel
theorem dX2_readsLine_103 : decode cX2_readsLine 103 = .ok (.invokevirtual 55, 3) := by decide +kernel
theorem dX2_readsLine_106 : decode cX2_readsLine 106 = .ok (.ifCond .eq 37, 3) := by decide +kernel
theorem dX2_readsLine_109 : decode cX2_readsLine 109 = .ok (.aload_n 0, 1) := by decide +kernel
theorem dX2_readsLine_110 : decode cX2_readsLine 110 = .ok (.getfield 15, 3) := by decide +kernel
theorem dX2_readsLine_113 : decode cX2_readsLine 113 = .ok (.aload_n 0, 1) := by decide +kernel
theorem dX2_readsLine_114 : decode cX2_readsLine 114 = .ok (.getfield 9, 3) := by decide +kernel
theorem dX2_readsLine_117 : decode cX2_readsLine 117 = .ok (.iconst 0, 1) := by decide +kernel
theorem dX2_readsLine_118 : decode cX2_readsLine 118 = .ok (.bipush 100, 2) := by decide +kernel
theorem dX2_readsLine_120 : decode cX2_readsLine 120 = .ok (.invokevirtual 63, 3) := by decide +kernel
theorem dX2_readsLine_123 : decode cX2_readsLine 123 = .ok (.putfield 73, 3) := by decide +kernel
theorem dX2_readsLine_126 : decode cX2_readsLine 126 = .ok (.aload_n 0, 1) := by decide +kernel
theorem dX2_readsLine_127 : decode cX2_readsLine 127 = .ok (.getfield 15, 3) := by decide +kernel
theorem dX2_readsLine_130 : decode cX2_readsLine 130 = .ok (.getfield 73, 3) := by decide +kernel
theorem dX2_readsLine_133 : decode cX2_readsLine 133 = .ok (.iconst (-1), 1) := by decide +kernel
theorem dX2_readsLine_134 : decode cX2_readsLine 134 = .ok (.if_icmp .eq 7, 3) := by decide +kernel
theorem dX2_readsLine_137 : decode cX2_readsLine 137 = .ok (.iconst 1, 1) := by decide +kernel
theorem dX2_readsLine_138 : decode cX2_readsLine 138 = .ok (.goto 4, 3) := by decide +kernel
theorem dX2_readsLine_141 : decode cX2_readsLine 141 = .ok (.iconst 0, 1) := by decide +kernel
theorem dX2_readsLine_142 : decode cX2_readsLine 142 = .ok (.ireturn, 1) := by decide +kernel
theorem dX2_readsLine_143 : decode cX2_readsLine 143 = .ok (.aload_n 0, 1) := by decide +kernel
theorem dX2_readsLine_144 : decode cX2_readsLine 144 = .ok (.getfield 9, 3) := by decide +kernel
theorem dX2_readsLine_147 : decode cX2_readsLine 147 = .ok (.ldc 75, 2) := by decide +kernel
theorem dX2_readsLine_149 : decode cX2_readsLine 149 = .ok (.invokevirtual 55, 3) := by decide +kernel
theorem dX2_readsLine_152 : decode cX2_readsLine 152 = .ok (.ifCond .eq 38, 3) := by decide +kernel
theorem dX2_readsLine_155 : decode cX2_readsLine 155 = .ok (.aload_n 0, 1) := by decide +kernel
theorem dX2_readsLine_156 : decode cX2_readsLine 156 = .ok (.getfield 15, 3) := by decide +kernel
theorem dX2_readsLine_159 : decode cX2_readsLine 159 = .ok (.aload_n 0, 1) := by decide +kernel
theorem dX2_readsLine_160 : decode cX2_readsLine 160 = .ok (.getfield 9, 3) := by decide +kernel
theorem dX2_readsLine_163 : decode cX2_readsLine 163 = .ok (.iconst 0, 1) := by decide +kernel
theorem dX2_readsLine_164 : decode cX2_readsLine 164 = .ok (.sipush 999, 3) := by decide +kernel
theorem dX2_readsLine_167 : decode cX2_readsLine 167 = .ok (.invokevirtual 63, 3) := by decide +kernel
theorem dX2_readsLine_170 : decode cX2_readsLine 170 = .ok (.putfield 77, 3) := by decide +kernel
theorem dX2_readsLine_173 : decode cX2_readsLine 173 = .ok (.aload_n 0, 1) := by decide +kernel
theorem dX2_readsLine_174 : decode cX2_readsLine 174 = .ok (.getfield 15, 3) := by decide +kernel
theorem dX2_readsLine_177 : decode cX2_readsLine 177 = .ok (.getfield 77, 3) := by decide +kernel
theorem dX2_readsLine_180 : decode cX2_readsLine 180 = .ok (.iconst (-1), 1) := by decide +kernel
theorem dX2_readsLine_181 : decode cX2_readsLine 181 = .ok (.if_icmp .eq 7, 3) := by decide +kernel
theorem dX2_readsLine_184 : decode cX2_readsLine 184 = .ok (.iconst 1, 1) := by decide +kernel
theorem dX2_readsLine_185 : decode cX2_readsLine 185 = .ok (.goto 4, 3) := by decide +kernel
theorem dX2_readsLine_188 : decode cX2_readsLine 188 = .ok (.iconst 0, 1) := by decide +kernel
theorem dX2_readsLine_189 : decode cX2_readsLine 189 = .ok (.ireturn, 1) := by decide +kernel
theorem dX2_readsLine_190 : decode cX2_readsLine 190 = .ok (.aload_n 0, 1) := by decide +kernel
theorem dX2_readsLine_191 : decode cX2_readsLine 191 = .ok (.getfield 9, 3) := by decide +kernel
theorem dX2_readsLine_194 : decode cX2_readsLine 194 = .ok (.invokevirtual 36, 3) := by decide +kernel
theorem dX2_readsLine_197 : decode cX2_readsLine 197 = .ok (.ireturn, 1) := by decide +kernel
theorem dX2_readsWord_0 : decode cX2_readsWord 0 = .ok (.aload_n 0, 1) := by decide +kernel
theorem dX2_readsWord_1 : decode cX2_readsWord 1 = .ok (.getfield 15, 3) := by decide +kernel
theorem dX2_readsWord_4 : decode cX2_readsWord 4 = .ok (.getfield 79, 3) := by decide +kernel
theorem dX2_readsWord_7 : decode cX2_readsWord 7 = .ok (.istore_n 1, 1) := by decide +kernel
theorem dX2_readsWord_8 : decode cX2_readsWord 8 = .ok (.iload_n 1, 1) := by decide +kernel
theorem dX2_readsWord_9 : decode cX2_readsWord 9 = .ok (.bipush 8, 2) := by decide +kernel
theorem dX2_readsWord_11 : decode cX2_readsWord 11 = .ok (.if_icmp .lt 11, 3) := by decide +kernel
theorem dX2_readsWord_14 : decode cX2_readsWord 14 = .ok (.aload_n 0, 1) := by decide +kernel
theorem dX2_readsWord_15 : decode cX2_readsWord 15 = .ok (.getfield 9, 3) := by decide +kernel
theorem dX2_readsWord_18 : decode cX2_readsWord 18 = .ok (.invokevirtual 36, 3) := by decide +kernel
theorem dX2_readsWord_21 : decode cX2_readsWord 21 = .ok (.ireturn, 1) := by decide +kernel
theorem dX2_readsWord_22 : decode cX2_readsWord 22 = .ok (.aload_n 0, 1) := by decide +kernel
theorem dX2_readsWord_23 : decode cX2_readsWord 23 = .ok (.getfield 9, 3) := by decide +kernel
theorem dX2_readsWord_26 : decode cX2_readsWord 26 = .ok (.invokevirtual 82, 3) := by decide +kernel
theorem dX2_readsWord_29 : decode cX2_readsWord 29 = .ok (.aload_n 0, 1) := by decide +kernel
theorem dX2_readsWord_30 : decode cX2_readsWord 30 = .ok (.getfield 9, 3) := by decide +kernel
theorem dX2_readsWord_33 : decode cX2_readsWord 33 = .ok (.getfield 85, 3) := by decide +kernel
theorem dX2_readsWord_36 : decode cX2_readsWord 36 = .ok (.aload_n 0, 1) := by decide +kernel
theorem dX2_readsWord_37 : decode cX2_readsWord 37 = .ok (.getfield 9, 3) := by decide +kernel
theorem dX2_readsWord_40 : decode cX2_readsWord 40 = .ok (.getfield 88, 3) := by decide +kernel
theorem dX2_readsWord_43 : decode cX2_readsWord 43 = .ok (.isub, 1) := by decide +kernel
theorem dX2_readsWord_44 : decode cX2_readsWord 44 = .ok (.istore_n 2, 1) := by decide +kernel
theorem dX2_readsWord_45 : decode cX2_readsWord 45 = .ok (.aload_n 0, 1) := by decide +kernel
theorem dX2_readsWord_46 : decode cX2_readsWord 46 = .ok (.getfield 9, 3) := by decide +kernel
theorem dX2_readsWord_49 : decode cX2_readsWord 49 = .ok (.getfield 24, 3) := by decide +kernel
theorem dX2_readsWord_52 : decode cX2_readsWord 52 = .ok (.iconst 1, 1) := by decide +kernel
theorem dX2_readsWord_53 : decode cX2_readsWord 53 = .ok (.if_icmp .ne 9, 3) := by decide +kernel
theorem dX2_readsWord_56 : decode cX2_readsWord 56 = .ok (.iload_n 2, 1) := by decide +kernel
theorem dX2_readsWord_57 : decode cX2_readsWord 57 = .ok (.bipush 6, 2) := by decide +kernel
theorem dX2_readsWord_59 : decode cX2_readsWord 59 = .ok (.if_icmp .le 11, 3) := by decide +kernel
theorem dX2_readsWord_62 : decode cX2_readsWord 62 = .ok (.aload_n 0, 1) := by decide +kernel
theorem dX2_readsWord_63 : decode cX2_readsWord 63 = .ok (.getfield 9, 3) := by decide +kernel
theorem dX2_readsWord_66 : decode cX2_readsWord 66 = .ok (.invokevirtual 36, 3) := by decide +kernel
theorem dX2_readsWord_69 : decode cX2_readsWord 69 = .ok (.ireturn, 1) := by decide +kernel
theorem dX2_readsWord_70 : decode cX2_readsWord 70 = .ok (.iconst 0, 1) := by decide +kernel
theorem dX2_readsWord_71 : decode cX2_readsWord 71 = .ok (.istore_n 3, 1) := by decide +kernel
theorem dX2_readsWord_72 : decode cX2_readsWord 72 = .ok (.iload_n 3, 1) := by decide +kernel
theorem dX2_readsWord_73 : decode cX2_readsWord 73 = .ok (.iload_n 2, 1) := by decide +kernel
theorem dX2_readsWord_74 : decode cX2_readsWord 74 = .ok (.if_icmp .ge 49, 3) := by decide +kernel
theorem dX2_readsWord_77 : decode cX2_readsWord 77 = .ok (.aload_n 0, 1) := by decide +kernel
theorem dX2_readsWord_78 : decode cX2_readsWord 78 = .ok (.getfield 9, 3) := by decide +kernel
theorem dX2_readsWord_81 : decode cX2_readsWord 81 = .ok (.iload_n 3, 1) := by decide +kernel
theorem dX2_readsWord_82 : decode cX2_readsWord 82 = .ok (.invokevirtual 91, 3) := by decide +kernel
theorem dX2_readsWord_85 : decode cX2_readsWord 85 = .ok (.istore 4, 2) := by decide +kernel
theorem dX2_readsWord_87 : decode cX2_readsWord 87 = .ok (.iload 4, 2) := by decide +kernel
theorem dX2_readsWord_89 : decode cX2_readsWord 89 = .ok (.iconst (-1), 1) := by decide +kernel
theorem dX2_readsWord_90 : decode cX2_readsWord 90 = .ok (.if_icmp .ne 11, 3) := by decide +kernel
theorem dX2_readsWord_93 : decode cX2_readsWord 93 = .ok (.aload_n 0, 1) := by decide +kernel
theorem dX2_readsWord_94 : decode cX2_readsWord 94 = .ok (.getfield 9, 3) := by decide +kernel
theorem dX2_readsWord_97 : decode cX2_readsWord 97 = .ok (.invokevirtual 36, 3) := by decide +kernel
theorem dX2_readsWord_100 : decode cX2_readsWord 100 = .ok (.ireturn, 1) := by decide +kernel
theorem dX2_readsWord_101 : decode cX2_readsWord 101 = .ok (.aload_n 0, 1) := by decide +kernel
theorem dX2_readsWord_102 : decode cX2_readsWord 102 = .ok (.getfield 15, 3) := by decide +kernel
theorem dX2_readsWord_105 : decode cX2_readsWord 105 = .ok (.getfield 95, 3) := by decide +kernel
theorem dX2_readsWord_108 : decode cX2_readsWord 108 = .ok (.iload_n 1, 1) := by decide +kernel
theorem dX2_readsWord_109 : decode cX2_readsWord 109 = .ok (.bipush 6, 2) := by decide +kernel
theorem dX2_readsWord_111 : decode cX2_readsWord 111 = .ok (.imul, 1) := by decide +kernel
theorem dX2_readsWord_112 : decode cX2_readsWord 112 = .ok (.iload_n 3, 1) := by decide +kernel
theorem dX2_readsWord_113 : decode cX2_readsWord 113 = .ok (.iadd, 1) := by decide +kernel
theorem dX2_readsWord_114 : decode cX2_readsWord 114 = .ok (.iload 4, 2) := by decide +kernel
theorem dX2_readsWord_116 : decode cX2_readsWord 116 = .ok (.iastore, 1) := by decide +kernel
theorem dX2_readsWord_117 : decode cX2_readsWord 117 = .ok (.iinc 3 1, 3) := by decide +kernel
theorem dX2_readsWord_120 : decode cX2_readsWord 120 = .ok (.goto (-48), 3) := by decide +kernel
theorem dX2_readsWord_123 : decode cX2_readsWord 123 = .ok (.aload_n 0, 1) := by decide +kernel
theorem dX2_readsWord_124 : decode cX2_readsWord 124 = .ok (.getfield 15, 3) := by decide +kernel
theorem dX2_readsWord_127 : decode cX2_readsWord 127 = .ok (.getfield 99, 3) := by decide +kernel
theorem dX2_readsWord_130 : decode cX2_readsWord 130 = .ok (.iload_n 1, 1) := by decide +kernel
theorem dX2_readsWord_131 : decode cX2_readsWord 131 = .ok (.iload_n 2, 1) := by decide +kernel
theorem dX2_readsWord_132 : decode cX2_readsWord 132 = .ok (.iastore, 1) := by decide +kernel
theorem dX2_readsWord_133 : decode cX2_readsWord 133 = .ok (.aload_n 0, 1) := by decide +kernel
theorem dX2_readsWord_134 : decode cX2_readsWord 134 = .ok (.getfield 9, 3) := by decide +kernel
theorem dX2_readsWord_137 : decode cX2_readsWord 137 = .ok (.invokevirtual 82, 3) := by decide +kernel
theorem dX2_readsWord_140 : decode cX2_readsWord 140 = .ok (.aload_n 0, 1) := by decide +kernel
theorem dX2_readsWord_141 : decode cX2_readsWord 141 = .ok (.getfield 9, 3) := by decide +kernel
theorem dX2_readsWord_144 : decode cX2_readsWord 144 = .ok (.ldc 102, 2) := by decide +kernel
theorem dX2_readsWord_146 : decode cX2_readsWord 146 = .ok (.invokevirtual 55, 3) := by decide +kernel
theorem dX2_readsWord_149 : decode cX2_readsWord 149 = .ok (.ifCond .ne 11, 3) := by decide +kernel
theorem dX2_readsWord_152 : decode cX2_readsWord 152 = .ok (.aload_n 0, 1) := by decide +kernel
theorem dX2_readsWord_153 : decode cX2_readsWord 153 = .ok (.getfield 9, 3) := by decide +kernel
theorem dX2_readsWord_156 : decode cX2_readsWord 156 = .ok (.invokevirtual 36, 3) := by decide +kernel
theorem dX2_readsWord_159 : decode cX2_readsWord 159 = .ok (.ireturn, 1) := by decide +kernel
theorem dX2_readsWord_160 : decode cX2_readsWord 160 = .ok (.aload_n 0, 1) := by decide +kernel
theorem dX2_readsWord_161 : decode cX2_readsWord 161 = .ok (.getfield 15, 3) := by decide +kernel
theorem dX2_readsWord_164 : decode cX2_readsWord 164 = .ok (.getfield 104, 3) := by decide +kernel
theorem dX2_readsWord_167 : decode cX2_readsWord 167 = .ok (.iload_n 1, 1) := by decide +kernel
theorem dX2_readsWord_168 : decode cX2_readsWord 168 = .ok (.aload_n 0, 1) := by decide +kernel
theorem dX2_readsWord_169 : decode cX2_readsWord 169 = .ok (.getfield 9, 3) := by decide +kernel
theorem dX2_readsWord_172 : decode cX2_readsWord 172 = .ok (.iconst 1, 1) := by decide +kernel
theorem dX2_readsWord_173 : decode cX2_readsWord 173 = .ok (.bipush 99, 2) := by decide +kernel
theorem dX2_readsWord_175 : decode cX2_readsWord 175 = .ok (.invokevirtual 63, 3) := by decide +kernel
theorem dX2_readsWord_178 : decode cX2_readsWord 178 = .ok (.iastore, 1) := by decide +kernel
theorem dX2_readsWord_179 : decode cX2_readsWord 179 = .ok (.aload_n 0, 1) := by decide +kernel
theorem dX2_readsWord_180 : decode cX2_readsWord 180 = .ok (.getfield 15, 3) := by decide +kernel
theorem dX2_readsWord_183 : decode cX2_readsWord 183 = .ok (.dup, 1) := by decide +kernel
theorem dX2_readsWord_184 : decode cX2_readsWord 184 = .ok (.getfield 79, 3) := by decide +kernel
theorem dX2_readsWord_187 : decode cX2_readsWord 187 = .ok (.iconst 1, 1) := by decide +kernel
theorem dX2_readsWord_188 : decode cX2_readsWord 188 = .ok (.iadd, 1) := by decide +kernel
theorem dX2_readsWord_189 : decode cX2_readsWord 189 = .ok (.putfield 79, 3) := by decide +kernel
theorem dX2_readsWord_192 : decode cX2_readsWord 192 = .ok (.aload_n 0, 1) := by decide +kernel
theorem dX2_readsWord_193 : decode cX2_readsWord 193 = .ok (.getfield 15, 3) := by decide +kernel
theorem dX2_readsWord_196 : decode cX2_readsWord 196 = .ok (.getfield 104, 3) := by decide +kernel
theorem dX2_readsWord_199 : decode cX2_readsWord 199 = .ok (.iload_n 1, 1) := by decide +kernel
theorem dX2_readsWord_200 : decode cX2_readsWord 200 = .ok (.iaload, 1) := by decide +kernel
theorem dX2_readsWord_201 : decode cX2_readsWord 201 = .ok (.iconst (-1), 1) := by decide +kernel
theorem dX2_readsWord_202 : decode cX2_readsWord 202 = .ok (.if_icmp .eq 7, 3) := by decide +kernel
theorem dX2_readsWord_205 : decode cX2_readsWord 205 = .ok (.iconst 1, 1) := by decide +kernel
theorem dX2_readsWord_206 : decode cX2_readsWord 206 = .ok (.goto 4, 3) := by decide +kernel
theorem dX2_readsWord_209 : decode cX2_readsWord 209 = .ok (.iconst 0, 1) := by decide +kernel
theorem dX2_readsWord_210 : decode cX2_readsWord 210 = .ok (.ireturn, 1) := by decide +kernel
theorem dX2_readsWriter_0 : decode cX2_readsWriter 0 = .ok (.aload_n 0, 1) := by decide +kernel
theorem dX2_readsWriter_1 : decode cX2_readsWriter 1 = .ok (.getfield 15, 3) := by decide +kernel
theorem dX2_readsWriter_4 : decode cX2_readsWriter 4 = .ok (.getfield 106, 3) := by decide +kernel
theorem dX2_readsWriter_7 : decode cX2_readsWriter 7 = .ok (.istore_n 1, 1) := by decide +kernel
theorem dX2_readsWriter_8 : decode cX2_readsWriter 8 = .ok (.iload_n 1, 1) := by decide +kernel
theorem dX2_readsWriter_9 : decode cX2_readsWriter 9 = .ok (.iconst 5, 1) := by decide +kernel
theorem dX2_readsWriter_10 : decode cX2_readsWriter 10 = .ok (.if_icmp .lt 11, 3) := by decide +kernel
theorem dX2_readsWriter_13 : decode cX2_readsWriter 13 = .ok (.aload_n 0, 1) := by decide +kernel
theorem dX2_readsWriter_14 : decode cX2_readsWriter 14 = .ok (.getfield 9, 3) := by decide +kernel
theorem dX2_readsWriter_17 : decode cX2_readsWriter 17 = .ok (.invokevirtual 36, 3) := by decide +kernel
theorem dX2_readsWriter_20 : decode cX2_readsWriter 20 = .ok (.ireturn, 1) := by decide +kernel
theorem dX2_readsWriter_21 : decode cX2_readsWriter 21 = .ok (.aload_n 0, 1) := by decide +kernel
theorem dX2_readsWriter_22 : decode cX2_readsWriter 22 = .ok (.getfield 9, 3) := by decide +kernel
theorem dX2_readsWriter_25 : decode cX2_readsWriter 25 = .ok (.invokevirtual 82, 3) := by decide +kernel
theorem dX2_readsWriter_28 : decode cX2_readsWriter 28 = .ok (.aload_n 0, 1) := by decide +kernel
theorem dX2_readsWriter_29 : decode cX2_readsWriter 29 = .ok (.getfield 9, 3) := by decide +kernel
theorem dX2_readsWriter_32 : decode cX2_readsWriter 32 = .ok (.ldc 109, 2) := by decide +kernel
theorem dX2_readsWriter_34 : decode cX2_readsWriter 34 = .ok (.invokevirtual 55, 3) := by decide +kernel
theorem dX2_readsWriter_37 : decode cX2_readsWriter 37 = .ok (.ifCond .ne 11, 3) := by decide +kernel
theorem dX2_readsWriter_40 : decode cX2_readsWriter 40 = .ok (.aload_n 0, 1) := by decide +kernel
theorem dX2_readsWriter_41 : decode cX2_readsWriter 41 = .ok (.getfield 9, 3) := by decide +kernel
theorem dX2_readsWriter_44 : decode cX2_readsWriter 44 = .ok (.invokevirtual 36, 3) := by decide +kernel
theorem dX2_readsWriter_47 : decode cX2_readsWriter 47 = .ok (.ireturn, 1) := by decide +kernel
theorem dX2_readsWriter_48 : decode cX2_readsWriter 48 = .ok (.aload_n 0, 1) := by decide +kernel
theorem dX2_readsWriter_49 : decode cX2_readsWriter 49 = .ok (.getfield 9, 3) := by decide +kernel
theorem dX2_readsWriter_52 : decode cX2_readsWriter 52 = .ok (.iconst 1, 1) := by decide +kernel
theorem dX2_readsWriter_53 : decode cX2_readsWriter 53 = .ok (.bipush 9, 2) := by decide +kernel
theorem dX2_readsWriter_55 : decode cX2_readsWriter 55 = .ok (.invokevirtual 63, 3) := by decide +kernel
theorem dX2_readsWriter_58 : decode cX2_readsWriter 58 = .ok (.istore_n 2, 1) := by decide +kernel
theorem dX2_readsWriter_59 : decode cX2_readsWriter 59 = .ok (.iload_n 2, 1) := by decide +kernel
theorem dX2_readsWriter_60 : decode cX2_readsWriter 60 = .ok (.iconst (-1), 1) := by decide +kernel
theorem dX2_readsWriter_61 : decode cX2_readsWriter 61 = .ok (.if_icmp .ne 5, 3) := by decide +kernel
theorem dX2_readsWriter_64 : decode cX2_readsWriter 64 = .ok (.iconst 0, 1) := by decide +kernel
theorem dX2_readsWriter_65 : decode cX2_readsWriter 65 = .ok (.ireturn, 1) := by decide +kernel
theorem dX2_readsWriter_66 : decode cX2_readsWriter 66 = .ok (.aload_n 0, 1) := by decide +kernel
theorem dX2_readsWriter_67 : decode cX2_readsWriter 67 = .ok (.getfield 9, 3) := by decide +kernel
theorem dX2_readsWriter_70 : decode cX2_readsWriter 70 = .ok (.ldc 111, 2) := by decide +kernel
theorem dX2_readsWriter_72 : decode cX2_readsWriter 72 = .ok (.invokevirtual 55, 3) := by decide +kernel
theorem dX2_readsWriter_75 : decode cX2_readsWriter 75 = .ok (.ifCond .eq 16, 3) := by decide +kernel
theorem dX2_readsWriter_78 : decode cX2_readsWriter 78 = .ok (.aload_n 0, 1) := by decide +kernel
theorem dX2_readsWriter_79 : decode cX2_readsWriter 79 = .ok (.getfield 9, 3) := by decide +kernel
theorem dX2_readsWriter_82 : decode cX2_readsWriter 82 = .ok (.iconst 0, 1) := by decide +kernel
theorem dX2_readsWriter_83 : decode cX2_readsWriter 83 = .ok (.bipush 9, 2) := by decide +kernel
theorem dX2_readsWriter_85 : decode cX2_readsWriter 85 = .ok (.invokevirtual 63, 3) := by decide +kernel
theorem dX2_readsWriter_88 : decode cX2_readsWriter 88 = .ok (.goto 4, 3) := by decide +kernel
theorem dX2_readsWriter_91 : decode cX2_readsWriter 91 = .ok (.iconst 0, 1) := by decide +kernel
theorem dX2_readsWriter_92 : decode cX2_readsWriter 92 = .ok (.istore_n 3, 1) := by decide +kernel
theorem dX2_readsWriter_93 : decode cX2_readsWriter 93 = .ok (.iload_n 3, 1) := by decide +kernel
theorem dX2_readsWriter_94 : decode cX2_readsWriter 94 = .ok (.iconst (-1), 1) := by decide +kernel
theorem dX2_readsWriter_95 : decode cX2_readsWriter 95 = .ok (.if_icmp .ne 5, 3) := by decide +kernel
theorem dX2_readsWriter_98 : decode cX2_readsWriter 98 = .ok (.iconst 0, 1) := by decide +kernel
theorem dX2_readsWriter_99 : decode cX2_readsWriter 99 = .ok (.ireturn, 1) := by decide +kernel
theorem dX2_readsWriter_100 : decode cX2_readsWriter 100 = .ok (.aload_n 0, 1) := by decide +kernel
theorem dX2_readsWriter_101 : decode cX2_readsWriter 101 = .ok (.getfield 9, 3) := by decide +kernel
theorem dX2_readsWriter_104 : decode cX2_readsWriter 104 = .ok (.ldc 113, 2) := by decide +kernel
theorem dX2_readsWriter_106 : decode cX2_readsWriter 106 = .ok (.invokevirtual 55, 3) := by decide +kernel
theorem dX2_readsWriter_109 : decode cX2_readsWriter 109 = .ok (.ifCond .eq 16, 3) := by decide +kernel
theorem dX2_readsWriter_112 : decode cX2_readsWriter 112 = .ok (.aload_n 0, 1) := by decide +kernel
theorem dX2_readsWriter_113 : decode cX2_readsWriter 113 = .ok (.getfield 9, 3) := by decide +kernel
theorem dX2_readsWriter_116 : decode cX2_readsWriter 116 = .ok (.iconst 0, 1) := by decide +kernel
theorem dX2_readsWriter_117 : decode cX2_readsWriter 117 = .ok (.bipush 99, 2) := by decide +kernel
theorem dX2_readsWriter_119 : decode cX2_readsWriter 119 = .ok (.invokevirtual 63, 3) := by decide +kernel
theorem dX2_readsWriter_122 : decode cX2_readsWriter 122 = .ok (.goto 4, 3) := by decide +kernel
theorem dX2_readsWriter_125 : decode cX2_readsWriter 125 = .ok (.iconst 0, 1) := by decide +kernel
theorem dX2_readsWriter_126 : decode cX2_readsWriter 126 = .ok (.istore 4, 2) := by decide +kernel
theorem dX2_readsWriter_128 : decode cX2_readsWriter 128 = .ok (.iload 4, 2) := by decide +kernel
theorem dX2_readsWriter_130 : decode cX2_readsWriter 130 = .ok (.iconst (-1), 1) := by decide +kernel
theorem dX2_readsWriter_131 : decode cX2_readsWriter 131 = .ok (.if_icmp .ne 5, 3) := by decide +kernel
theorem dX2_readsWriter_134 : decode cX2_readsWriter 134 = .ok (.iconst 0, 1) := by decide +kernel
theorem dX2_readsWriter_135 : decode cX2_readsWriter 135 = .ok (.ireturn, 1) := by decide +kernel
theorem dX2_readsWriter_136 : decode cX2_readsWriter 136 = .ok (.aload_n 0, 1) := by decide +kernel
theorem dX2_readsWriter_137 : decode cX2_readsWriter 137 = .ok (.getfield 9, 3) := by decide +kernel
theorem dX2_readsWriter_140 : decode cX2_readsWriter 140 = .ok (.ldc 115, 2) := by decide +kernel
theorem dX2_readsWriter_142 : decode cX2_readsWriter 142 = .ok (.invokevirtual 55, 3) := by decide +kernel
theorem dX2_readsWriter_145 : decode cX2_readsWriter 145 = .ok (.ifCond .eq 10, 3) := by decide +kernel
theorem dX2_readsWriter_148 : decode cX2_readsWriter 148 = .ok (.aload_n 0, 1) := by decide +kernel
theorem dX2_readsWriter_149 : decode cX2_readsWriter 149 = .ok (.invokevirtual 117, 3) := by decide +kernel
theorem dX2_readsWriter_152 : decode cX2_readsWriter 152 = .ok (.goto 4, 3) := by decide +kernel
theorem dX2_readsWriter_155 : decode cX2_readsWriter 155 = .ok (.iconst 0, 1) := by decide +kernel
theorem dX2_readsWriter_156 : decode cX2_readsWriter 156 = .ok (.istore 5, 2) := by decide +kernel
theorem dX2_readsWriter_158 : decode cX2_readsWriter 158 = .ok (.iload 5, 2) := by decide +kernel
theorem dX2_readsWriter_160 : decode cX2_readsWriter 160 = .ok (.iconst (-1), 1) := by decide +kernel
theorem dX2_readsWriter_161 : decode cX2_readsWriter 161 = .ok (.if_icmp .ne 5, 3) := by decide +kernel
theorem dX2_readsWriter_164 : decode cX2_readsWriter 164 = .ok (.iconst 0, 1) := by decide +kernel
theorem dX2_readsWriter_165 : decode cX2_readsWriter 165 = .ok (.ireturn, 1) := by decide +kernel
theorem dX2_readsWriter_166 : decode cX2_readsWriter 166 = .ok (.aload_n 0, 1) := by decide +kernel
theorem dX2_readsWriter_167 : decode cX2_readsWriter 167 = .ok (.iload_n 2, 1) := by decide +kernel
theorem dX2_readsWriter_168 : decode cX2_readsWriter 168 = .ok (.iload_n 3, 1) := by decide +kernel
theorem dX2_readsWriter_169 : decode cX2_readsWriter 169 = .ok (.iload 4, 2) := by decide +kernel
theorem dX2_readsWriter_171 : decode cX2_readsWriter 171 = .ok (.iload 5, 2) := by decide +kernel
theorem dX2_readsWriter_173 : decode cX2_readsWriter 173 = .ok (.invokevirtual 121, 3) := by decide +kernel
theorem dX2_readsWriter_176 : decode cX2_readsWriter 176 = .ok (.iconst 1, 1) := by decide +kernel
theorem dX2_readsWriter_177 : decode cX2_readsWriter 177 = .ok (.ireturn, 1) := by decide +kernel
theorem dX2_addWriter_0 : decode cX2_addWriter 0 = .ok (.aload_n 0, 1) := by decide +kernel
theorem dX2_addWriter_1 : decode cX2_addWriter 1 = .ok (.getfield 15, 3) := by decide +kernel
theorem dX2_addWriter_4 : decode cX2_addWriter 4 = .ok (.getfield 106, 3) := by decide +kernel
theorem dX2_addWriter_7 : decode cX2_addWriter 7 = .ok (.istore 5, 2) := by decide +kernel
theorem dX2_addWriter_9 : decode cX2_addWriter 9 = .ok (.aload_n 0, 1) := by decide +kernel
theorem dX2_addWriter_10 : decode cX2_addWriter 10 = .ok (.getfield 15, 3) := by decide +kernel
theorem dX2_addWriter_13 : decode cX2_addWriter 13 = .ok (.getfield 125, 3) := by decide +kernel
theorem dX2_addWriter_16 : decode cX2_addWriter 16 = .ok (.iload 5, 2) := by decide +kernel
theorem dX2_addWriter_18 : decode cX2_addWriter 18 = .ok (.iload_n 1, 1) := by decide +kernel
theorem dX2_addWriter_19 : decode cX2_addWriter 19 = .ok (.iastore, 1) := by decide +kernel
theorem dX2_addWriter_20 : decode cX2_addWriter 20 = .ok (.aload_n 0, 1) := by decide +kernel
theorem dX2_addWriter_21 : decode cX2_addWriter 21 = .ok (.getfield 15, 3) := by decide +kernel
theorem dX2_addWriter_24 : decode cX2_addWriter 24 = .ok (.getfield 127, 3) := by decide +kernel
theorem dX2_addWriter_27 : decode cX2_addWriter 27 = .ok (.iload 5, 2) := by decide +kernel
theorem dX2_addWriter_29 : decode cX2_addWriter 29 = .ok (.iload_n 2, 1) := by decide +kernel
theorem dX2_addWriter_30 : decode cX2_addWriter 30 = .ok (.iastore, 1) := by decide +kernel
theorem dX2_addWriter_31 : decode cX2_addWriter 31 = .ok (.aload_n 0, 1) := by decide +kernel
theorem dX2_addWriter_32 : decode cX2_addWriter 32 = .ok (.getfield 15, 3) := by decide +kernel
theorem dX2_addWriter_35 : decode cX2_addWriter 35 = .ok (.getfield 129, 3) := by decide +kernel
theorem dX2_addWriter_38 : decode cX2_addWriter 38 = .ok (.iload 5, 2) := by decide +kernel
theorem dX2_addWriter_40 : decode cX2_addWriter 40 = .ok (.iload_n 3, 1) := by decide +kernel
theorem dX2_addWriter_41 : decode cX2_addWriter 41 = .ok (.iastore, 1) := by decide +kernel
theorem dX2_addWriter_42 : decode cX2_addWriter 42 = .ok (.aload_n 0, 1) := by decide +kernel
theorem dX2_addWriter_43 : decode cX2_addWriter 43 = .ok (.getfield 15, 3) := by decide +kernel
theorem dX2_addWriter_46 : decode cX2_addWriter 46 = .ok (.getfield 131, 3) := by decide +kernel
theorem dX2_addWriter_49 : decode cX2_addWriter 49 = .ok (.iload 5, 2) := by decide +kernel
theorem dX2_addWriter_51 : decode cX2_addWriter 51 = .ok (.iload 4, 2) := by decide +kernel
theorem dX2_addWriter_53 : decode cX2_addWriter 53 = .ok (.iastore, 1) := by decide +kernel
theorem dX2_addWriter_54 : decode cX2_addWriter 54 = .ok (.iconst 0, 1) := by decide +kernel
theorem dX2_addWriter_55 : decode cX2_addWriter 55 = .ok (.istore 6, 2) := by decide +kernel
theorem dX2_addWriter_57 : decode cX2_addWriter 57 = .ok (.iload 6, 2) := by decide +kernel
theorem dX2_addWriter_59 : decode cX2_addWriter 59 = .ok (.bipush 20, 2) := by decide +kernel
theorem dX2_addWriter_61 : decode cX2_addWriter 61 = .ok (.if_icmp .ge 26, 3) := by decide +kernel
theorem dX2_addWriter_64 : decode cX2_addWriter 64 = .ok (.aload_n 0, 1) := by decide +kernel
theorem dX2_addWriter_65 : decode cX2_addWriter 65 = .ok (.getfield 15, 3) := by decide +kernel
theorem dX2_addWriter_68 : decode cX2_addWriter 68 = .ok (.getfield 133, 3) := by decide +kernel
theorem dX2_addWriter_71 : decode cX2_addWriter 71 = .ok (.iload 5, 2) := by decide +kernel
theorem dX2_addWriter_73 : decode cX2_addWriter 73 = .ok (.bipush 20, 2) := by decide +kernel
theorem dX2_addWriter_75 : decode cX2_addWriter 75 = .ok (.imul, 1) := by decide +kernel
theorem dX2_addWriter_76 : decode cX2_addWriter 76 = .ok (.iload 6, 2) := by decide +kernel
theorem dX2_addWriter_78 : decode cX2_addWriter 78 = .ok (.iadd, 1) := by decide +kernel
theorem dX2_addWriter_79 : decode cX2_addWriter 79 = .ok (.iconst 0, 1) := by decide +kernel
theorem dX2_addWriter_80 : decode cX2_addWriter 80 = .ok (.iastore, 1) := by decide +kernel
theorem dX2_addWriter_81 : decode cX2_addWriter 81 = .ok (.iinc 6 1, 3) := by decide +kernel
theorem dX2_addWriter_84 : decode cX2_addWriter 84 = .ok (.goto (-27), 3) := by decide +kernel
theorem dX2_addWriter_87 : decode cX2_addWriter 87 = .ok (.aload_n 0, 1) := by decide +kernel
theorem dX2_addWriter_88 : decode cX2_addWriter 88 = .ok (.getfield 15, 3) := by decide +kernel
theorem dX2_addWriter_91 : decode cX2_addWriter 91 = .ok (.dup, 1) := by decide +kernel
theorem dX2_addWriter_92 : decode cX2_addWriter 92 = .ok (.getfield 106, 3) := by decide +kernel
theorem dX2_addWriter_95 : decode cX2_addWriter 95 = .ok (.iconst 1, 1) := by decide +kernel
theorem dX2_addWriter_96 : decode cX2_addWriter 96 = .ok (.iadd, 1) := by decide +kernel
theorem dX2_addWriter_97 : decode cX2_addWriter 97 = .ok (.putfield 106, 3) := by decide +kernel
theorem dX2_addWriter_100 : decode cX2_addWriter 100 = .ok (.return_, 1) := by decide +kernel
theorem dX2_takeLetterSet_0 : decode cX2_takeLetterSet 0 = .ok (.aload_n 0, 1) := by decide +kernel
theorem dX2_takeLetterSet_1 : decode cX2_takeLetterSet 1 = .ok (.getfield 9, 3) := by decide +kernel
theorem dX2_takeLetterSet_4 : decode cX2_takeLetterSet 4 = .ok (.getfield 24, 3) := by decide +kernel
theorem dX2_takeLetterSet_7 : decode cX2_takeLetterSet 7 = .ok (.iconst 1, 1) := by decide +kernel
theorem dX2_takeLetterSet_8 : decode cX2_takeLetterSet 8 = .ok (.if_icmp .eq 13, 3) := by decide +kernel
theorem dX2_takeLetterSet_11 : decode cX2_takeLetterSet 11 = .ok (.aload_n 0, 1) := by decide +kernel
theorem dX2_takeLetterSet_12 : decode cX2_takeLetterSet 12 = .ok (.getfield 9, 3) := by decide +kernel
theorem dX2_takeLetterSet_15 : decode cX2_takeLetterSet 15 = .ok (.invokevirtual 36, 3) := by decide +kernel
theorem dX2_takeLetterSet_18 : decode cX2_takeLetterSet 18 = .ok (.pop, 1) := by decide +kernel
theorem dX2_takeLetterSet_19 : decode cX2_takeLetterSet 19 = .ok (.iconst (-1), 1) := by decide +kernel
theorem dX2_takeLetterSet_20 : decode cX2_takeLetterSet 20 = .ok (.ireturn, 1) := by decide +kernel
theorem dX2_takeLetterSet_21 : decode cX2_takeLetterSet 21 = .ok (.iconst 0, 1) := by decide +kernel
theorem dX2_takeLetterSet_22 : decode cX2_takeLetterSet 22 = .ok (.istore_n 1, 1) := by decide +kernel
theorem dX2_takeLetterSet_23 : decode cX2_takeLetterSet 23 = .ok (.iconst 0, 1) := by decide +kernel
theorem dX2_takeLetterSet_24 : decode cX2_takeLetterSet 24 = .ok (.istore_n 2, 1) := by decide +kernel
theorem dX2_takeLetterSet_25 : decode cX2_takeLetterSet 25 = .ok (.iload_n 2, 1) := by decide +kernel
theorem dX2_takeLetterSet_26 : decode cX2_takeLetterSet 26 = .ok (.aload_n 0, 1) := by decide +kernel
theorem dX2_takeLetterSet_27 : decode cX2_takeLetterSet 27 = .ok (.getfield 9, 3) := by decide +kernel
theorem dX2_takeLetterSet_30 : decode cX2_takeLetterSet 30 = .ok (.getfield 85, 3) := by decide +kernel
theorem dX2_takeLetterSet_33 : decode cX2_takeLetterSet 33 = .ok (.aload_n 0, 1) := by decide +kernel
theorem dX2_takeLetterSet_34 : decode cX2_takeLetterSet 34 = .ok (.getfield 9, 3) := by decide +kernel
theorem dX2_takeLetterSet_37 : decode cX2_takeLetterSet 37 = .ok (.getfield 88, 3) := by decide +kernel
theorem dX2_takeLetterSet_40 : decode cX2_takeLetterSet 40 = .ok (.isub, 1) := by decide +kernel
theorem dX2_takeLetterSet_41 : decode cX2_takeLetterSet 41 = .ok (.if_icmp .ge 48, 3) := by decide +kernel
theorem dX2_takeLetterSet_44 : decode cX2_takeLetterSet 44 = .ok (.aload_n 0, 1) := by decide +kernel
theorem dX2_takeLetterSet_45 : decode cX2_takeLetterSet 45 = .ok (.getfield 9, 3) := by decide +kernel
theorem dX2_takeLetterSet_48 : decode cX2_takeLetterSet 48 = .ok (.iload_n 2, 1) := by decide +kernel
theorem dX2_takeLetterSet_49 : decode cX2_takeLetterSet 49 = .ok (.invokevirtual 91, 3) := by decide +kernel
theorem dX2_takeLetterSet_52 : decode cX2_takeLetterSet 52 = .ok (.istore_n 3, 1) := by decide +kernel
theorem dX2_takeLetterSet_53 : decode cX2_takeLetterSet 53 = .ok (.iload_n 3, 1) := by decide +kernel
theorem dX2_takeLetterSet_54 : decode cX2_takeLetterSet 54 = .ok (.iconst (-1), 1) := by decide +kernel
theorem dX2_takeLetterSet_55 : decode cX2_takeLetterSet 55 = .ok (.if_icmp .eq 12, 3) := by decide +kernel
theorem dX2_takeLetterSet_58 : decode cX2_takeLetterSet 58 = .ok (.iload_n 1, 1) := by decide +kernel
theorem dX2_takeLetterSet_59 : decode cX2_takeLetterSet 59 = .ok (.iload_n 3, 1) := by decide +kernel
theorem dX2_takeLetterSet_60 : decode cX2_takeLetterSet 60 = .ok (.ishr, 1) := by decide +kernel
theorem dX2_takeLetterSet_61 : decode cX2_takeLetterSet 61 = .ok (.iconst 1, 1) := by decide +kernel
theorem dX2_takeLetterSet_62 : decode cX2_takeLetterSet 62 = .ok (.iand, 1) := by decide +kernel
theorem dX2_takeLetterSet_63 : decode cX2_takeLetterSet 63 = .ok (.iconst 1, 1) := by decide +kernel
theorem dX2_takeLetterSet_64 : decode cX2_takeLetterSet 64 = .ok (.if_icmp .ne 13, 3) := by decide +kernel
theorem dX2_takeLetterSet_67 : decode cX2_takeLetterSet 67 = .ok (.aload_n 0, 1) := by decide +kernel
theorem dX2_takeLetterSet_68 : decode cX2_takeLetterSet 68 = .ok (.getfield 9, 3) := by decide +kernel
theorem dX2_takeLetterSet_71 : decode cX2_takeLetterSet 71 = .ok (.invokevirtual 36, 3) := by decide +kernel
theorem dX2_takeLetterSet_74 : decode cX2_takeLetterSet 74 = .ok (.pop, 1) := by decide +kernel
theorem dX2_takeLetterSet_75 : decode cX2_takeLetterSet 75 = .ok (.iconst (-1), 1) := by decide +kernel
theorem dX2_takeLetterSet_76 : decode cX2_takeLetterSet 76 = .ok (.ireturn, 1) := by decide +kernel
theorem dX2_takeLetterSet_77 : decode cX2_takeLetterSet 77 = .ok (.iload_n 1, 1) := by decide +kernel
theorem dX2_takeLetterSet_78 : decode cX2_takeLetterSet 78 = .ok (.iconst 1, 1) := by decide +kernel
theorem dX2_takeLetterSet_79 : decode cX2_takeLetterSet 79 = .ok (.iload_n 3, 1) := by decide +kernel
theorem dX2_takeLetterSet_80 : decode cX2_takeLetterSet 80 = .ok (.ishl, 1) := by decide +kernel
theorem dX2_takeLetterSet_81 : decode cX2_takeLetterSet 81 = .ok (.ior, 1) := by decide +kernel
theorem dX2_takeLetterSet_82 : decode cX2_takeLetterSet 82 = .ok (.istore_n 1, 1) := by decide +kernel
theorem dX2_takeLetterSet_83 : decode cX2_takeLetterSet 83 = .ok (.iinc 2 1, 3) := by decide +kernel
theorem dX2_takeLetterSet_86 : decode cX2_takeLetterSet 86 = .ok (.goto (-61), 3) := by decide +kernel
theorem dX2_takeLetterSet_89 : decode cX2_takeLetterSet 89 = .ok (.aload_n 0, 1) := by decide +kernel
theorem dX2_takeLetterSet_90 : decode cX2_takeLetterSet 90 = .ok (.getfield 9, 3) := by decide +kernel
theorem dX2_takeLetterSet_93 : decode cX2_takeLetterSet 93 = .ok (.invokevirtual 82, 3) := by decide +kernel
theorem dX2_takeLetterSet_96 : decode cX2_takeLetterSet 96 = .ok (.iload_n 1, 1) := by decide +kernel
theorem dX2_takeLetterSet_97 : decode cX2_takeLetterSet 97 = .ok (.ireturn, 1) := by decide +kernel
theorem dX2_readsSpeech_0 : decode cX2_readsSpeech 0 = .ok (.iconst 0, 1) := by decide +kernel
theorem dX2_readsSpeech_1 : decode cX2_readsSpeech 1 = .ok (.istore_n 1, 1) := by decide +kernel
theorem dX2_readsSpeech_2 : decode cX2_readsSpeech 2 = .ok (.iload_n 1, 1) := by decide +kernel
theorem dX2_readsSpeech_3 : decode cX2_readsSpeech 3 = .ok (.bipush 6, 2) := by decide +kernel
theorem dX2_readsSpeech_5 : decode cX2_readsSpeech 5 = .ok (.if_icmp .ge 100, 3) := by decide +kernel
theorem dX2_readsSpeech_8 : decode cX2_readsSpeech 8 = .ok (.iload_n 1, 1) := by decide +kernel
theorem dX2_readsSpeech_9 : decode cX2_readsSpeech 9 = .ok (.ifCond .le 16, 3) := by decide +kernel
theorem dX2_readsSpeech_12 : decode cX2_readsSpeech 12 = .ok (.aload_n 0, 1) := by decide +kernel
theorem dX2_readsSpeech_13 : decode cX2_readsSpeech 13 = .ok (.getfield 9, 3) := by decide +kernel
theorem dX2_readsSpeech_16 : decode cX2_readsSpeech 16 = .ok (.getfield 24, 3) := by decide +kernel
theorem dX2_readsSpeech_19 : decode cX2_readsSpeech 19 = .ok (.iconst 2, 1) := by decide +kernel
theorem dX2_readsSpeech_20 : decode cX2_readsSpeech 20 = .ok (.if_icmp .eq 5, 3) := by decide +kernel
theorem dX2_readsSpeech_23 : decode cX2_readsSpeech 23 = .ok (.iconst 1, 1) := by decide +kernel
theorem dX2_readsSpeech_24 : decode cX2_readsSpeech 24 = .ok (.ireturn, 1) := by decide +kernel
theorem dX2_readsSpeech_25 : decode cX2_readsSpeech 25 = .ok (.aload_n 0, 1) := by decide +kernel
theorem dX2_readsSpeech_26 : decode cX2_readsSpeech 26 = .ok (.getfield 15, 3) := by decide +kernel
theorem dX2_readsSpeech_29 : decode cX2_readsSpeech 29 = .ok (.getfield 136, 3) := by decide +kernel
theorem dX2_readsSpeech_32 : decode cX2_readsSpeech 32 = .ok (.bipush 20, 2) := by decide +kernel
theorem dX2_readsSpeech_34 : decode cX2_readsSpeech 34 = .ok (.if_icmp .lt 11, 3) := by decide +kernel
theorem dX2_readsSpeech_37 : decode cX2_readsSpeech 37 = .ok (.aload_n 0, 1) := by decide +kernel
theorem dX2_readsSpeech_38 : decode cX2_readsSpeech 38 = .ok (.getfield 9, 3) := by decide +kernel
theorem dX2_readsSpeech_41 : decode cX2_readsSpeech 41 = .ok (.invokevirtual 36, 3) := by decide +kernel
theorem dX2_readsSpeech_44 : decode cX2_readsSpeech 44 = .ok (.ireturn, 1) := by decide +kernel
theorem dX2_readsSpeech_45 : decode cX2_readsSpeech 45 = .ok (.aload_n 0, 1) := by decide +kernel
theorem dX2_readsSpeech_46 : decode cX2_readsSpeech 46 = .ok (.getfield 9, 3) := by decide +kernel
theorem dX2_readsSpeech_49 : decode cX2_readsSpeech 49 = .ok (.iconst 0, 1) := by decide +kernel
theorem dX2_readsSpeech_50 : decode cX2_readsSpeech 50 = .ok (.aload_n 0, 1) := by decide +kernel
theorem dX2_readsSpeech_51 : decode cX2_readsSpeech 51 = .ok (.getfield 15, 3) := by decide +kernel
theorem dX2_readsSpeech_54 : decode cX2_readsSpeech 54 = .ok (.getfield 79, 3) := by decide +kernel
theorem dX2_readsSpeech_57 : decode cX2_readsSpeech 57 = .ok (.iconst 1, 1) := by decide +kernel
theorem dX2_readsSpeech_58 : decode cX2_readsSpeech 58 = .ok (.isub, 1) := by decide +kernel
theorem dX2_readsSpeech_59 : decode cX2_readsSpeech 59 = .ok (.invokevirtual 63, 3) := by decide +kernel
theorem dX2_readsSpeech_62 : decode cX2_readsSpeech 62 = .ok (.istore_n 2, 1) := by decide +kernel
theorem dX2_readsSpeech_63 : decode cX2_readsSpeech 63 = .ok (.iload_n 2, 1) := by decide +kernel
theorem dX2_readsSpeech_64 : decode cX2_readsSpeech 64 = .ok (.iconst (-1), 1) := by decide +kernel
theorem dX2_readsSpeech_65 : decode cX2_readsSpeech 65 = .ok (.if_icmp .ne 5, 3) := by decide +kernel
theorem dX2_readsSpeech_68 : decode cX2_readsSpeech 68 = .ok (.iconst 0, 1) := by decide +kernel
theorem dX2_readsSpeech_69 : decode cX2_readsSpeech 69 = .ok (.ireturn, 1) := by decide +kernel
theorem dX2_readsSpeech_70 : decode cX2_readsSpeech 70 = .ok (.aload_n 0, 1) := by decide +kernel
theorem dX2_readsSpeech_71 : decode cX2_readsSpeech 71 = .ok (.getfield 15, 3) := by decide +kernel
theorem dX2_readsSpeech_74 : decode cX2_readsSpeech 74 = .ok (.getfield 139, 3) := by decide +kernel
theorem dX2_readsSpeech_77 : decode cX2_readsSpeech 77 = .ok (.aload_n 0, 1) := by decide +kernel
theorem dX2_readsSpeech_78 : decode cX2_readsSpeech 78 = .ok (.getfield 15, 3) := by decide +kernel
theorem dX2_readsSpeech_81 : decode cX2_readsSpeech 81 = .ok (.getfield 136, 3) := by decide +kernel
theorem dX2_readsSpeech_84 : decode cX2_readsSpeech 84 = .ok (.iload_n 2, 1) := by decide +kernel
theorem dX2_readsSpeech_85 : decode cX2_readsSpeech 85 = .ok (.iastore, 1) := by decide +kernel
theorem dX2_readsSpeech_86 : decode cX2_readsSpeech 86 = .ok (.aload_n 0, 1) := by decide +kernel
theorem dX2_readsSpeech_87 : decode cX2_readsSpeech 87 = .ok (.getfield 15, 3) := by decide +kernel
theorem dX2_readsSpeech_90 : decode cX2_readsSpeech 90 = .ok (.dup, 1) := by decide +kernel
theorem dX2_readsSpeech_91 : decode cX2_readsSpeech 91 = .ok (.getfield 136, 3) := by decide +kernel
theorem dX2_readsSpeech_94 : decode cX2_readsSpeech 94 = .ok (.iconst 1, 1) := by decide +kernel
theorem dX2_readsSpeech_95 : decode cX2_readsSpeech 95 = .ok (.iadd, 1) := by decide +kernel
theorem dX2_readsSpeech_96 : decode cX2_readsSpeech 96 = .ok (.putfield 136, 3) := by decide +kernel
theorem dX2_readsSpeech_99 : decode cX2_readsSpeech 99 = .ok (.iinc 1 1, 3) := by decide +kernel
theorem dX2_readsSpeech_102 : decode cX2_readsSpeech 102 = .ok (.goto (-100), 3) := by decide +kernel
theorem dX2_readsSpeech_105 : decode cX2_readsSpeech 105 = .ok (.aload_n 0, 1) := by decide +kernel
theorem dX2_readsSpeech_106 : decode cX2_readsSpeech 106 = .ok (.getfield 9, 3) := by decide +kernel
theorem dX2_readsSpeech_109 : decode cX2_readsSpeech 109 = .ok (.getfield 24, 3) := by decide +kernel
theorem dX2_readsSpeech_112 : decode cX2_readsSpeech 112 = .ok (.iconst 2, 1) := by decide +kernel
theorem dX2_readsSpeech_113 : decode cX2_readsSpeech 113 = .ok (.if_icmp .ne 13, 3) := by decide +kernel
theorem dX2_readsSpeech_116 : decode cX2_readsSpeech 116 = .ok (.aload_n 0, 1) := by decide +kernel
theorem dX2_readsSpeech_117 : decode cX2_readsSpeech 117 = .ok (.getfield 9, 3) := by decide +kernel
theorem dX2_readsSpeech_120 : decode cX2_readsSpeech 120 = .ok (.invokevirtual 36, 3) := by decide +kernel
theorem dX2_readsSpeech_123 : decode cX2_readsSpeech 123 = .ok (.ifCond .eq 7, 3) := by decide +kernel
theorem dX2_readsSpeech_126 : decode cX2_readsSpeech 126 = .ok (.iconst 1, 1) := by decide +kernel
theorem dX2_readsSpeech_127 : decode cX2_readsSpeech 127 = .ok (.goto 4, 3) := by decide +kernel
theorem dX2_readsSpeech_130 : decode cX2_readsSpeech 130 = .ok (.iconst 0, 1) := by decide +kernel
theorem dX2_readsSpeech_131 : decode cX2_readsSpeech 131 = .ok (.ireturn, 1) := by decide +kernel
theorem dX3_init_0 : decode cX3_init 0 = .ok (.aload_n 0, 1) := by decide +kernel
theorem dX3_init_1 : decode cX3_init 1 = .ok (.invokespecial 3, 3) := by decide +kernel
theorem dX3_init_4 : decode cX3_init 4 = .ok (.aload_n 0, 1) := by decide +kernel
theorem dX3_init_5 : decode cX3_init 5 = .ok (.bipush 8, 2) := by decide +kernel
theorem dX3_init_7 : decode cX3_init 7 = .ok (.newarray .int, 2) := by decide +kernel
theorem dX3_init_9 : decode cX3_init 9 = .ok (.putfield 9, 3) := by decide +kernel
theorem dX3_init_12 : decode cX3_init 12 = .ok (.aload_n 0, 1) := by decide +kernel
theorem dX3_init_13 : decode cX3_init 13 = .ok (.bipush 8, 2) := by decide +kernel
theorem dX3_init_15 : decode cX3_init 15 = .ok (.newarray .int, 2) := by decide +kernel
theorem dX3_init_17 : decode cX3_init 17 = .ok (.putfield 15, 3) := by decide +kernel
theorem dX3_init_20 : decode cX3_init 20 = .ok (.aload_n 0, 1) := by decide +kernel
theorem dX3_init_21 : decode cX3_init 21 = .ok (.bipush 8, 2) := by decide +kernel
theorem dX3_init_23 : decode cX3_init 23 = .ok (.newarray .int, 2) := by decide +kernel
theorem dX3_init_25 : decode cX3_init 25 = .ok (.putfield 18, 3) := by decide +kernel
theorem dX3_init_28 : decode cX3_init 28 = .ok (.aload_n 0, 1) := by decide +kernel
theorem dX3_init_29 : decode cX3_init 29 = .ok (.bipush 8, 2) := by decide +kernel
theorem dX3_init_31 : decode cX3_init 31 = .ok (.newarray .int, 2) := by decide +kernel
theorem dX3_init_33 : decode cX3_init 33 = .ok (.putfield 21, 3) := by decide +kernel
theorem dX3_init_36 : decode cX3_init 36 = .ok (.return_, 1) := by decide +kernel
theorem dX3_take_0 : decode cX3_take 0 = .ok (.aload_n 0, 1) := by decide +kernel
theorem dX3_take_1 : decode cX3_take 1 = .ok (.aload_n 1, 1) := by decide +kernel
theorem dX3_take_2 : decode cX3_take 2 = .ok (.getfield 24, 3) := by decide +kernel
theorem dX3_take_5 : decode cX3_take 5 = .ok (.putfield 30, 3) := by decide +kernel
theorem dX3_take_8 : decode cX3_take 8 = .ok (.iconst 0, 1) := by decide +kernel
theorem dX3_take_9 : decode cX3_take 9 = .ok (.istore_n 3, 1) := by decide +kernel
theorem dX3_take_10 : decode cX3_take 10 = .ok (.iload_n 3, 1) := by decide +kernel
theorem dX3_take_11 : decode cX3_take 11 = .ok (.aload_n 0, 1) := by decide +kernel
theorem dX3_take_12 : decode cX3_take 12 = .ok (.getfield 30, 3) := by decide +kernel
theorem dX3_take_15 : decode cX3_take 15 = .ok (.if_icmp .ge 112, 3) := by decide +kernel
theorem dX3_take_18 : decode cX3_take 18 = .ok (.aload_n 0, 1) := by decide +kernel
theorem dX3_take_19 : decode cX3_take 19 = .ok (.getfield 18, 3) := by decide +kernel
theorem dX3_take_22 : decode cX3_take 22 = .ok (.iload_n 3, 1) := by decide +kernel
theorem dX3_take_23 : decode cX3_take 23 = .ok (.aload_n 1, 1) := by decide +kernel
theorem dX3_take_24 : decode cX3_take 24 = .ok (.getfield 31, 3) := by decide +kernel
theorem dX3_take_27 : decode cX3_take 27 = .ok (.iload_n 3, 1) := by decide +kernel
theorem dX3_take_28 : decode cX3_take 28 = .ok (.iaload, 1) := by decide +kernel
theorem dX3_take_29 : decode cX3_take 29 = .ok (.iastore, 1) := by decide +kernel
theorem dX3_take_30 : decode cX3_take 30 = .ok (.aload_n 0, 1) := by decide +kernel
theorem dX3_take_31 : decode cX3_take 31 = .ok (.getfield 21, 3) := by decide +kernel
theorem dX3_take_34 : decode cX3_take 34 = .ok (.iload_n 3, 1) := by decide +kernel
theorem dX3_take_35 : decode cX3_take 35 = .ok (.aload_n 1, 1) := by decide +kernel
theorem dX3_take_36 : decode cX3_take 36 = .ok (.getfield 32, 3) := by decide +kernel
theorem dX3_take_39 : decode cX3_take 39 = .ok (.iload_n 3, 1) := by decide +kernel
theorem dX3_take_40 : decode cX3_take 40 = .ok (.iaload, 1) := by decide +kernel
theorem dX3_take_41 : decode cX3_take 41 = .ok (.iastore, 1) := by decide +kernel
theorem dX3_take_42 : decode cX3_take 42 = .ok (.iconst 0, 1) := by decide +kernel
theorem dX3_take_43 : decode cX3_take 43 = .ok (.istore 4, 2) := by decide +kernel
theorem dX3_take_45 : decode cX3_take 45 = .ok (.iconst 0, 1) := by decide +kernel
theorem dX3_take_46 : decode cX3_take 46 = .ok (.istore 5, 2) := by decide +kernel
theorem dX3_take_48 : decode cX3_take 48 = .ok (.iconst 0, 1) := by decide +kernel
theorem dX3_take_49 : decode cX3_take 49 = .ok (.istore 6, 2) := by decide +kernel
theorem dX3_take_51 : decode cX3_take 51 = .ok (.iload 6, 2) := by decide +kernel
theorem dX3_take_53 : decode cX3_take 53 = .ok (.aload_n 0, 1) := by decide +kernel
theorem dX3_take_54 : decode cX3_take 54 = .ok (.getfield 18, 3) := by decide +kernel
theorem dX3_take_57 : decode cX3_take 57 = .ok (.iload_n 3, 1) := by decide +kernel
theorem dX3_take_58 : decode cX3_take 58 = .ok (.iaload, 1) := by decide +kernel
theorem dX3_take_59 : decode cX3_take 59 = .ok (.if_icmp .ge 46, 3) := by decide +kernel
theorem dX3_take_62 : decode cX3_take 62 = .ok (.aload_n 1, 1) := by decide +kernel
theorem dX3_take_63 : decode cX3_take 63 = .ok (.getfield 33, 3) := by decide +kernel
theorem dX3_take_66 : decode cX3_take 66 = .ok (.iload_n 3, 1) := by decide +kernel
theorem dX3_take_67 : decode cX3_take 67 = .ok (.bipush 6, 2) := by decide +kernel
theorem dX3_take_69 : decode cX3_take 69 = .ok (.imul, 1) := by decide +kernel
theorem dX3_take_70 : decode cX3_take 70 = .ok (.iload 6, 2) := by decide +kernel
theorem dX3_take_72 : decode cX3_take 72 = .ok (.iadd, 1) := by decide +kernel
theorem dX3_take_73 : decode cX3_take 73 = .ok (.iaload, 1) := by decide +kernel
theorem dX3_take_74 : decode cX3_take 74 = .ok (.istore 7, 2) := by decide +kernel
theorem dX3_take_76 : decode cX3_take 76 = .ok (.iload_n 2, 1) := by decide +kernel
theorem dX3_take_77 : decode cX3_take 77 = .ok (.iload 7, 2) := by decide +kernel
theorem dX3_take_79 : decode cX3_take 79 = .ok (.ishr, 1) := by decide +kernel
theorem dX3_take_80 : decode cX3_take 80 = .ok (.iconst 1, 1) := by decide +kernel
theorem dX3_take_81 : decode cX3_take 81 = .ok (.iand, 1) := by decide +kernel
theorem dX3_take_82 : decode cX3_take 82 = .ok (.ifCond .ne 17, 3) := by decide +kernel
theorem dX3_take_85 : decode cX3_take 85 = .ok (.iload 4, 2) := by decide +kernel
theorem dX3_take_87 : decode cX3_take 87 = .ok (.iconst 4, 1) := by decide +kernel
theorem dX3_take_88 : decode cX3_take 88 = .ok (.ishl, 1) := by decide +kernel
theorem dX3_take_89 : decode cX3_take 89 = .ok (.iload 7, 2) := by decide +kernel
theorem dX3_take_91 : decode cX3_take 91 = .ok (.iconst 1, 1) := by decide +kernel
theorem dX3_take_92 : decode cX3_take 92 = .ok (.iadd, 1) := by decide +kernel
theorem dX3_take_93 : decode cX3_take 93 = .ok (.ior, 1) := by decide +kernel
theorem dX3_take_94 : decode cX3_take 94 = .ok (.istore 4, 2) := by decide +kernel
theorem dX3_take_96 : decode cX3_take 96 = .ok (.iinc 5 1, 3) := by decide +kernel
theorem dX3_take_99 : decode cX3_take 99 = .ok (.iinc 6 1, 3) := by decide +kernel
theorem dX3_take_102 : decode cX3_take 102 = .ok (.goto (-51), 3) := by decide +kernel
theorem dX3_take_105 : decode cX3_take 105 = .ok (.aload_n 0, 1) := by decide +kernel
theorem dX3_take_106 : decode cX3_take 106 = .ok (.getfield 9, 3) := by decide +kernel
theorem dX3_take_109 : decode cX3_take 109 = .ok (.iload_n 3, 1) := by decide +kernel
theorem dX3_take_110 : decode cX3_take 110 = .ok (.iload 4, 2) := by decide +kernel
theorem dX3_take_112 : decode cX3_take 112 = .ok (.iastore, 1) := by decide +kernel
theorem dX3_take_113 : decode cX3_take 113 = .ok (.aload_n 0, 1) := by decide +kernel
theorem dX3_take_114 : decode cX3_take 114 = .ok (.getfield 15, 3) := by decide +kernel
theorem dX3_take_117 : decode cX3_take 117 = .ok (.iload_n 3, 1) := by decide +kernel
theorem dX3_take_118 : decode cX3_take 118 = .ok (.iload 5, 2) := by decide +kernel
theorem dX3_take_120 : decode cX3_take 120 = .ok (.iastore, 1) := by decide +kernel
theorem dX3_take_121 : decode cX3_take 121 = .ok (.iinc 3 1, 3) := by decide +kernel
theorem dX3_take_124 : decode cX3_take 124 = .ok (.goto (-114), 3) := by decide +kernel
theorem dX3_take_127 : decode cX3_take 127 = .ok (.return_, 1) := by decide +kernel
theorem dX3_alikeTo_0 : decode cX3_alikeTo 0 = .ok (.iconst 0, 1) := by decide +kernel
theorem dX3_alikeTo_1 : decode cX3_alikeTo 1 = .ok (.istore_n 2, 1) := by decide +kernel
theorem dX3_alikeTo_2 : decode cX3_alikeTo 2 = .ok (.iconst 0, 1) := by decide +kernel
theorem dX3_alikeTo_3 : decode cX3_alikeTo 3 = .ok (.istore_n 3, 1) := by decide +kernel
theorem dX3_alikeTo_4 : decode cX3_alikeTo 4 = .ok (.iload_n 3, 1) := by decide +kernel
theorem dX3_alikeTo_5 : decode cX3_alikeTo 5 = .ok (.aload_n 0, 1) := by decide +kernel
theorem dX3_alikeTo_6 : decode cX3_alikeTo 6 = .ok (.getfield 30, 3) := by decide +kernel
theorem dX3_alikeTo_9 : decode cX3_alikeTo 9 = .ok (.if_icmp .ge 30, 3) := by decide +kernel
theorem dX3_alikeTo_12 : decode cX3_alikeTo 12 = .ok (.aload_n 0, 1) := by decide +kernel
theorem dX3_alikeTo_13 : decode cX3_alikeTo 13 = .ok (.getfield 9, 3) := by decide +kernel
theorem dX3_alikeTo_16 : decode cX3_alikeTo 16 = .ok (.iload_n 3, 1) := by decide +kernel
theorem dX3_alikeTo_17 : decode cX3_alikeTo 17 = .ok (.iaload, 1) := by decide +kernel
theorem dX3_alikeTo_18 : decode cX3_alikeTo 18 = .ok (.aload_n 0, 1) := by decide +kernel
theorem dX3_alikeTo_19 : decode cX3_alikeTo 19 = .ok (.getfield 9, 3) := by decide +kernel
theorem dX3_alikeTo_22 : decode cX3_alikeTo 22 = .ok (.iload_n 1, 1) := by decide +kernel
theorem dX3_alikeTo_23 : decode cX3_alikeTo 23 = .ok (.iaload, 1) := by decide +kernel
theorem dX3_alikeTo_24 : decode cX3_alikeTo 24 = .ok (.if_icmp .ne 9, 3) := by decide +kernel
theorem dX3_alikeTo_27 : decode cX3_alikeTo 27 = .ok (.iload_n 2, 1) := by decide +kernel
theorem dX3_alikeTo_28 : decode cX3_alikeTo 28 = .ok (.iconst 1, 1) := by decide +kernel
theorem dX3_alikeTo_29 : decode cX3_alikeTo 29 = .ok (.iload_n 3, 1) := by decide +kernel
theorem dX3_alikeTo_30 : decode cX3_alikeTo 30 = .ok (.ishl, 1) := by decide +kernel
theorem dX3_alikeTo_31 : decode cX3_alikeTo 31 = .ok (.ior, 1) := by decide +kernel
theorem dX3_alikeTo_32 : decode cX3_alikeTo 32 = .ok (.istore_n 2, 1) := by decide +kernel
theorem dX3_alikeTo_33 : decode cX3_alikeTo 33 = .ok (.iinc 3 1, 3) := by decide +kernel
theorem dX3_alikeTo_36 : decode cX3_alikeTo 36 = .ok (.goto (-32), 3) := by decide +kernel
theorem dX3_alikeTo_39 : decode cX3_alikeTo 39 = .ok (.iload_n 2, 1) := by decide +kernel
theorem dX3_alikeTo_40 : decode cX3_alikeTo 40 = .ok (.ireturn, 1) := by decide +kernel
theorem dX3_readAs_0 : decode cX3_readAs 0 = .ok (.iconst (-1), 1) := by decide +kernel
theorem dX3_readAs_1 : decode cX3_readAs 1 = .ok (.istore_n 2, 1) := by decide +kernel
theorem dX3_readAs_2 : decode cX3_readAs 2 = .ok (.iconst 0, 1) := by decide +kernel
theorem dX3_readAs_3 : decode cX3_readAs 3 = .ok (.istore_n 3, 1) := by decide +kernel
theorem dX3_readAs_4 : decode cX3_readAs 4 = .ok (.iload_n 3, 1) := by decide +kernel
theorem dX3_readAs_5 : decode cX3_readAs 5 = .ok (.aload_n 0, 1) := by decide +kernel
theorem dX3_readAs_6 : decode cX3_readAs 6 = .ok (.getfield 30, 3) := by decide +kernel
theorem dX3_readAs_9 : decode cX3_readAs 9 = .ok (.if_icmp .ge 46, 3) := by decide +kernel
theorem dX3_readAs_12 : decode cX3_readAs 12 = .ok (.aload_n 0, 1) := by decide +kernel
theorem dX3_readAs_13 : decode cX3_readAs 13 = .ok (.getfield 9, 3) := by decide +kernel
theorem dX3_readAs_16 : decode cX3_readAs 16 = .ok (.iload_n 3, 1) := by decide +kernel
theorem dX3_readAs_17 : decode cX3_readAs 17 = .ok (.iaload, 1) := by decide +kernel
theorem dX3_readAs_18 : decode cX3_readAs 18 = .ok (.aload_n 0, 1) := by decide +kernel
theorem dX3_readAs_19 : decode cX3_readAs 19 = .ok (.getfield 9, 3) := by decide +kernel
theorem dX3_readAs_22 : decode cX3_readAs 22 = .ok (.iload_n 1, 1) := by decide +kernel
theorem dX3_readAs_23 : decode cX3_readAs 23 = .ok (.iaload, 1) := by decide +kernel
theorem dX3_readAs_24 : decode cX3_readAs 24 = .ok (.if_icmp .ne 25, 3) := by decide +kernel
theorem dX3_readAs_27 : decode cX3_readAs 27 = .ok (.iload_n 2, 1) := by decide +kernel
theorem dX3_readAs_28 : decode cX3_readAs 28 = .ok (.iconst (-1), 1) := by decide +kernel
theorem dX3_readAs_29 : decode cX3_readAs 29 = .ok (.if_icmp .eq 18, 3) := by decide +kernel
theorem dX3_readAs_32 : decode cX3_readAs 32 = .ok (.aload_n 0, 1) := by decide +kernel
theorem dX3_readAs_33 : decode cX3_readAs 33 = .ok (.getfield 21, 3) := by decide +kernel
theorem dX3_readAs_36 : decode cX3_readAs 36 = .ok (.iload_n 3, 1) := by decide +kernel
theorem dX3_readAs_37 : decode cX3_readAs 37 = .ok (.iaload, 1) := by decide +kernel
theorem dX3_readAs_38 : decode cX3_readAs 38 = .ok (.aload_n 0, 1) := by decide +kernel
theorem dX3_readAs_39 : decode cX3_readAs 39 = .ok (.getfield 21, 3) := by decide +kernel
theorem dX3_readAs_42 : decode cX3_readAs 42 = .ok (.iload_n 2, 1) := by decide +kernel
theorem dX3_readAs_43 : decode cX3_readAs 43 = .ok (.iaload, 1) := by decide +kernel
theorem dX3_readAs_44 : decode cX3_readAs 44 = .ok (.if_icmp .le 5, 3) := by decide +kernel
theorem dX3_readAs_47 : decode cX3_readAs 47 = .ok (.iload_n 3, 1) := by decide +kernel
theorem dX3_readAs_48 : decode cX3_readAs 48 = .ok (.istore_n 2, 1) := by decide +kernel
theorem dX3_readAs_49 : decode cX3_readAs 49 = .ok (.iinc 3 1, 3) := by decide +kernel
theorem dX3_readAs_52 : decode cX3_readAs 52 = .ok (.goto (-48), 3) := by decide +kernel
theorem dX3_readAs_55 : decode cX3_readAs 55 = .ok (.iload_n 2, 1) := by decide +kernel
theorem dX3_readAs_56 : decode cX3_readAs 56 = .ok (.ireturn, 1) := by decide +kernel
theorem dX3_allDiffer_0 : decode cX3_allDiffer 0 = .ok (.iconst 0, 1) := by decide +kernel
theorem dX3_allDiffer_1 : decode cX3_allDiffer 1 = .ok (.istore_n 1, 1) := by decide +kernel
theorem dX3_allDiffer_2 : decode cX3_allDiffer 2 = .ok (.iload_n 1, 1) := by decide +kernel
theorem dX3_allDiffer_3 : decode cX3_allDiffer 3 = .ok (.aload_n 0, 1) := by decide +kernel
theorem dX3_allDiffer_4 : decode cX3_allDiffer 4 = .ok (.getfield 30, 3) := by decide +kernel
theorem dX3_allDiffer_7 : decode cX3_allDiffer 7 = .ok (.if_icmp .ge 22, 3) := by decide +kernel
theorem dX3_allDiffer_10 : decode cX3_allDiffer 10 = .ok (.aload_n 0, 1) := by decide +kernel
theorem dX3_allDiffer_11 : decode cX3_allDiffer 11 = .ok (.iload_n 1, 1) := by decide +kernel
theorem dX3_allDiffer_12 : decode cX3_allDiffer 12 = .ok (.invokevirtual 36, 3) := by decide +kernel
theorem dX3_allDiffer_15 : decode cX3_allDiffer 15 = .ok (.iconst 1, 1) := by decide +kernel
theorem dX3_allDiffer_16 : decode cX3_allDiffer 16 = .ok (.iload_n 1, 1) := by decide +kernel
theorem dX3_allDiffer_17 : decode cX3_allDiffer 17 = .ok (.ishl, 1) := by decide +kernel
theorem dX3_allDiffer_18 : decode cX3_allDiffer 18 = .ok (.if_icmp .eq 5, 3) := by decide +kernel
theorem dX3_allDiffer_21 : decode cX3_allDiffer 21 = .ok (.iconst 0, 1) := by decide +kernel
theorem dX3_allDiffer_22 : decode cX3_allDiffer 22 = .ok (.ireturn, 1) := by decide +kernel
theorem dX3_allDiffer_23 : decode cX3_allDiffer 23 = .ok (.iinc 1 1, 3) := by decide +kernel
theorem dX3_allDiffer_26 : decode cX3_allDiffer 26 = .ok (.goto (-24), 3) := by decide +kernel
theorem dX3_allDiffer_29 : decode cX3_allDiffer 29 = .ok (.iconst 1, 1) := by decide +kernel
theorem dX3_allDiffer_30 : decode cX3_allDiffer 30 = .ok (.ireturn, 1) := by decide +kernel
theorem dX3_clean_0 : decode cX3_clean 0 = .ok (.iconst 0, 1) := by decide +kernel
theorem dX3_clean_1 : decode cX3_clean 1 = .ok (.istore_n 1, 1) := by decide +kernel
theorem dX3_clean_2 : decode cX3_clean 2 = .ok (.iconst 0, 1) := by decide +kernel
theorem dX3_clean_3 : decode cX3_clean 3 = .ok (.istore_n 2, 1) := by decide +kernel
theorem dX3_clean_4 : decode cX3_clean 4 = .ok (.iload_n 2, 1) := by decide +kernel
theorem dX3_clean_5 : decode cX3_clean 5 = .ok (.aload_n 0, 1) := by decide +kernel
theorem dX3_clean_6 : decode cX3_clean 6 = .ok (.getfield 30, 3) := by decide +kernel
theorem dX3_clean_9 : decode cX3_clean 9 = .ok (.if_icmp .ge 24, 3) := by decide +kernel
theorem dX3_clean_12 : decode cX3_clean 12 = .ok (.aload_n 0, 1) := by decide +kernel
theorem dX3_clean_13 : decode cX3_clean 13 = .ok (.getfield 15, 3) := by decide +kernel
theorem dX3_clean_16 : decode cX3_clean 16 = .ok (.iload_n 2, 1) := by decide +kernel
theorem dX3_clean_17 : decode cX3_clean 17 = .ok (.iaload, 1) := by decide +kernel
theorem dX3_clean_18 : decode cX3_clean 18 = .ok (.ifCond .ne 9, 3) := by decide +kernel
theorem dX3_clean_21 : decode cX3_clean 21 = .ok (.iload_n 1, 1) := by decide +kernel
theorem dX3_clean_22 : decode cX3_clean 22 = .ok (.iconst 1, 1) := by decide +kernel
theorem dX3_clean_23 : decode cX3_clean 23 = .ok (.iload_n 2, 1) := by decide +kernel
theorem dX3_clean_24 : decode cX3_clean 24 = .ok (.ishl, 1) := by decide +kernel
theorem dX3_clean_25 : decode cX3_clean 25 = .ok (.ior, 1) := by decide +kernel
theorem dX3_clean_26 : decode cX3_clean 26 = .ok (.istore_n 1, 1) := by decide +kernel
theorem dX3_clean_27 : decode cX3_clean 27 = .ok (.iinc 2 1, 3) := by decide +kernel
theorem dX3_clean_30 : decode cX3_clean 30 = .ok (.goto (-26), 3) := by decide +kernel
theorem dX3_clean_33 : decode cX3_clean 33 = .ok (.iload_n 1, 1) := by decide +kernel
theorem dX3_clean_34 : decode cX3_clean 34 = .ok (.ireturn, 1) := by decide +kernel
theorem dX3_lost_0 : decode cX3_lost 0 = .ok (.iconst 0, 1) := by decide +kernel
theorem dX3_lost_1 : decode cX3_lost 1 = .ok (.istore_n 1, 1) := by decide +kernel
theorem dX3_lost_2 : decode cX3_lost 2 = .ok (.iconst 0, 1) := by decide +kernel
theorem dX3_lost_3 : decode cX3_lost 3 = .ok (.istore_n 2, 1) := by decide +kernel
theorem dX3_lost_4 : decode cX3_lost 4 = .ok (.iload_n 2, 1) := by decide +kernel
theorem dX3_lost_5 : decode cX3_lost 5 = .ok (.aload_n 0, 1) := by decide +kernel
theorem dX3_lost_6 : decode cX3_lost 6 = .ok (.getfield 30, 3) := by decide +kernel
theorem dX3_lost_9 : decode cX3_lost 9 = .ok (.if_icmp .ge 27, 3) := by decide +kernel
theorem dX3_lost_12 : decode cX3_lost 12 = .ok (.aload_n 0, 1) := by decide +kernel
theorem dX3_lost_13 : decode cX3_lost 13 = .ok (.iload_n 2, 1) := by decide +kernel
theorem dX3_lost_14 : decode cX3_lost 14 = .ok (.invokevirtual 40, 3) := by decide +kernel
theorem dX3_lost_17 : decode cX3_lost 17 = .ok (.iload_n 2, 1) := by decide +kernel
theorem dX3_lost_18 : decode cX3_lost 18 = .ok (.if_icmp .eq 12, 3) := by decide +kernel
theorem dX3_lost_21 : decode cX3_lost 21 = .ok (.iload_n 1, 1) := by decide +kernel
theorem dX3_lost_22 : decode cX3_lost 22 = .ok (.aload_n 0, 1) := by decide +kernel
theorem dX3_lost_23 : decode cX3_lost 23 = .ok (.getfield 21, 3) := by decide +kernel
theorem dX3_lost_26 : decode cX3_lost 26 = .ok (.iload_n 2, 1) := by decide +kernel
theorem dX3_lost_27 : decode cX3_lost 27 = .ok (.iaload, 1) := by decide +kernel
theorem dX3_lost_28 : decode cX3_lost 28 = .ok (.iadd, 1) := by decide +kernel
theorem dX3_lost_29 : decode cX3_lost 29 = .ok (.istore_n 1, 1) := by decide +kernel
theorem dX3_lost_30 : decode cX3_lost 30 = .ok (.iinc 2 1, 3) := by decide +kernel
theorem dX3_lost_33 : decode cX3_lost 33 = .ok (.goto (-29), 3) := by decide +kernel
theorem dX3_lost_36 : decode cX3_lost 36 = .ok (.iload_n 1, 1) := by decide +kernel
theorem dX3_lost_37 : decode cX3_lost 37 = .ok (.ireturn, 1) := by decide +kernel
theorem dX3_saved_0 : decode cX3_saved 0 = .ok (.iconst 0, 1) := by decide +kernel
theorem dX3_saved_1 : decode cX3_saved 1 = .ok (.istore_n 1, 1) := by decide +kernel
theorem dX3_saved_2 : decode cX3_saved 2 = .ok (.iconst 0, 1) := by decide +kernel
theorem dX3_saved_3 : decode cX3_saved 3 = .ok (.istore_n 2, 1) := by decide +kernel
theorem dX3_saved_4 : decode cX3_saved 4 = .ok (.iload_n 2, 1) := by decide +kernel
theorem dX3_saved_5 : decode cX3_saved 5 = .ok (.aload_n 0, 1) := by decide +kernel
theorem dX3_saved_6 : decode cX3_saved 6 = .ok (.getfield 30, 3) := by decide +kernel
theorem dX3_saved_9 : decode cX3_saved 9 = .ok (.if_icmp .ge 32, 3) := by decide +kernel
theorem dX3_saved_12 : decode cX3_saved 12 = .ok (.iload_n 1, 1) := by decide +kernel
theorem dX3_saved_13 : decode cX3_saved 13 = .ok (.aload_n 0, 1) := by decide +kernel
theorem dX3_saved_14 : decode cX3_saved 14 = .ok (.getfield 18, 3) := by decide +kernel
theorem dX3_saved_17 : decode cX3_saved 17 = .ok (.iload_n 2, 1) := by decide +kernel
theorem dX3_saved_18 : decode cX3_saved 18 = .ok (.iaload, 1) := by decide +kernel
theorem dX3_saved_19 : decode cX3_saved 19 = .ok (.aload_n 0, 1) := by decide +kernel
theorem dX3_saved_20 : decode cX3_saved 20 = .ok (.getfield 15, 3) := by decide +kernel
theorem dX3_saved_23 : decode cX3_saved 23 = .ok (.iload_n 2, 1) := by decide +kernel
theorem dX3_saved_24 : decode cX3_saved 24 = .ok (.iaload, 1) := by decide +kernel
theorem dX3_saved_25 : decode cX3_saved 25 = .ok (.isub, 1) := by decide +kernel
theorem dX3_saved_26 : decode cX3_saved 26 = .ok (.aload_n 0, 1) := by decide +kernel
theorem dX3_saved_27 : decode cX3_saved 27 = .ok (.getfield 21, 3) := by decide +kernel
theorem dX3_saved_30 : decode cX3_saved 30 = .ok (.iload_n 2, 1) := by decide +kernel
theorem dX3_saved_31 : decode cX3_saved 31 = .ok (.iaload, 1) := by decide +kernel
theorem dX3_saved_32 : decode cX3_saved 32 = .ok (.imul, 1) := by decide +kernel
theorem dX3_saved_33 : decode cX3_saved 33 = .ok (.iadd, 1) := by decide +kernel
theorem dX3_saved_34 : decode cX3_saved 34 = .ok (.istore_n 1, 1) := by decide +kernel
theorem dX3_saved_35 : decode cX3_saved 35 = .ok (.iinc 2 1, 3) := by decide +kernel
theorem dX3_saved_38 : decode cX3_saved 38 = .ok (.goto (-34), 3) := by decide +kernel
theorem dX3_saved_41 : decode cX3_saved 41 = .ok (.iload_n 1, 1) := by decide +kernel
theorem dX3_saved_42 : decode cX3_saved 42 = .ok (.ireturn, 1) := by decide +kernel
theorem dX4_init_0 : decode cX4_init 0 = .ok (.aload_n 0, 1) := by decide +kernel
theorem dX4_init_1 : decode cX4_init 1 = .ok (.invokespecial 1, 3) := by decide +kernel
theorem dX4_init_4 : decode cX4_init 4 = .ok (.aload_n 0, 1) := by decide +kernel
theorem dX4_init_5 : decode cX4_init 5 = .ok (.bipush 32, 2) := by decide +kernel
theorem dX4_init_7 : decode cX4_init 7 = .ok (.newarray .int, 2) := by decide +kernel
theorem dX4_init_9 : decode cX4_init 9 = .ok (.putfield 9, 3) := by decide +kernel
theorem dX4_init_12 : decode cX4_init 12 = .ok (.aload_n 0, 1) := by decide +kernel
theorem dX4_init_13 : decode cX4_init 13 = .ok (.iload_n 1, 1) := by decide +kernel
theorem dX4_init_14 : decode cX4_init 14 = .ok (.putfield 13, 3) := by decide +kernel
theorem dX4_init_17 : decode cX4_init 17 = .ok (.aload_n 0, 1) := by decide +kernel
theorem dX4_init_18 : decode cX4_init 18 = .ok (.aload_n 2, 1) := by decide +kernel
theorem dX4_init_19 : decode cX4_init 19 = .ok (.iload_n 1, 1) := by decide +kernel
theorem dX4_init_20 : decode cX4_init 20 = .ok (.invokestatic 17, 3) := by decide +kernel
theorem dX4_init_23 : decode cX4_init 23 = .ok (.putfield 23, 3) := by decide +kernel
theorem dX4_init_26 : decode cX4_init 26 = .ok (.aload_n 0, 1) := by decide +kernel
theorem dX4_init_27 : decode cX4_init 27 = .ok (.aload_n 3, 1) := by decide +kernel
theorem dX4_init_28 : decode cX4_init 28 = .ok (.iload_n 1, 1) := by decide +kernel
theorem dX4_init_29 : decode cX4_init 29 = .ok (.invokestatic 17, 3) := by decide +kernel
theorem dX4_init_32 : decode cX4_init 32 = .ok (.putfield 26, 3) := by decide +kernel
theorem dX4_init_35 : decode cX4_init 35 = .ok (.aload_n 0, 1) := by decide +kernel
theorem dX4_init_36 : decode cX4_init 36 = .ok (.aload 4, 2) := by decide +kernel
theorem dX4_init_38 : decode cX4_init 38 = .ok (.iload_n 1, 1) := by decide +kernel
theorem dX4_init_39 : decode cX4_init 39 = .ok (.iconst 1, 1) := by decide +kernel
theorem dX4_init_40 : decode cX4_init 40 = .ok (.iadd, 1) := by decide +kernel
theorem dX4_init_41 : decode cX4_init 41 = .ok (.invokestatic 17, 3) := by decide +kernel
theorem dX4_init_44 : decode cX4_init 44 = .ok (.putfield 29, 3) := by decide +kernel
theorem dX4_init_47 : decode cX4_init 47 = .ok (.aload_n 0, 1) := by decide +kernel
theorem dX4_init_48 : decode cX4_init 48 = .ok (.aload 5, 2) := by decide +kernel
theorem dX4_init_50 : decode cX4_init 50 = .ok (.aload 4, 2) := by decide +kernel
theorem dX4_init_52 : decode cX4_init 52 = .ok (.iload_n 1, 1) := by decide +kernel
theorem dX4_init_53 : decode cX4_init 53 = .ok (.iaload, 1) := by decide +kernel
theorem dX4_init_54 : decode cX4_init 54 = .ok (.invokestatic 17, 3) := by decide +kernel
theorem dX4_init_57 : decode cX4_init 57 = .ok (.putfield 32, 3) := by decide +kernel
theorem dX4_init_60 : decode cX4_init 60 = .ok (.return_, 1) := by decide +kernel
theorem dX4_sumOf_0 : decode cX4_sumOf 0 = .ok (.iconst 0, 1) := by decide +kernel
theorem dX4_sumOf_1 : decode cX4_sumOf 1 = .ok (.istore_n 3, 1) := by decide +kernel
theorem dX4_sumOf_2 : decode cX4_sumOf 2 = .ok (.iconst 0, 1) := by decide +kernel
theorem dX4_sumOf_3 : decode cX4_sumOf 3 = .ok (.istore 4, 2) := by decide +kernel
theorem dX4_sumOf_5 : decode cX4_sumOf 5 = .ok (.iload 4, 2) := by decide +kernel
theorem dX4_sumOf_7 : decode cX4_sumOf 7 = .ok (.aload_n 0, 1) := by decide +kernel
theorem dX4_sumOf_8 : decode cX4_sumOf 8 = .ok (.getfield 13, 3) := by decide +kernel
theorem dX4_sumOf_11 : decode cX4_sumOf 11 = .ok (.if_icmp .ge 40, 3) := by decide +kernel
theorem dX4_sumOf_14 : decode cX4_sumOf 14 = .ok (.aload_n 0, 1) := by decide +kernel
theorem dX4_sumOf_15 : decode cX4_sumOf 15 = .ok (.getfield 23, 3) := by decide +kernel
theorem dX4_sumOf_18 : decode cX4_sumOf 18 = .ok (.iload 4, 2) := by decide +kernel
theorem dX4_sumOf_20 : decode cX4_sumOf 20 = .ok (.iaload, 1) := by decide +kernel
theorem dX4_sumOf_21 : decode cX4_sumOf 21 = .ok (.iload_n 1, 1) := by decide +kernel
theorem dX4_sumOf_22 : decode cX4_sumOf 22 = .ok (.if_icmp .ne 23, 3) := by decide +kernel
theorem dX4_sumOf_25 : decode cX4_sumOf 25 = .ok (.aload_n 0, 1) := by decide +kernel
theorem dX4_sumOf_26 : decode cX4_sumOf 26 = .ok (.iload 4, 2) := by decide +kernel
theorem dX4_sumOf_28 : decode cX4_sumOf 28 = .ok (.aload_n 2, 1) := by decide +kernel
theorem dX4_sumOf_29 : decode cX4_sumOf 29 = .ok (.invokevirtual 35, 3) := by decide +kernel
theorem dX4_sumOf_32 : decode cX4_sumOf 32 = .ok (.ifCond .eq 13, 3) := by decide +kernel
theorem dX4_sumOf_35 : decode cX4_sumOf 35 = .ok (.iload_n 3, 1) := by decide +kernel
theorem dX4_sumOf_36 : decode cX4_sumOf 36 = .ok (.aload_n 0, 1) := by decide +kernel
theorem dX4_sumOf_37 : decode cX4_sumOf 37 = .ok (.getfield 26, 3) := by decide +kernel
theorem dX4_sumOf_40 : decode cX4_sumOf 40 = .ok (.iload 4, 2) := by decide +kernel
theorem dX4_sumOf_42 : decode cX4_sumOf 42 = .ok (.iaload, 1) := by decide +kernel
theorem dX4_sumOf_43 : decode cX4_sumOf 43 = .ok (.iadd, 1) := by decide +kernel
theorem dX4_sumOf_44 : decode cX4_sumOf 44 = .ok (.istore_n 3, 1) := by decide +kernel
theorem dX4_sumOf_45 : decode cX4_sumOf 45 = .ok (.iinc 4 1, 3) := by decide +kernel
theorem dX4_sumOf_48 : decode cX4_sumOf 48 = .ok (.goto (-43), 3) := by decide +kernel
theorem dX4_sumOf_51 : decode cX4_sumOf 51 = .ok (.iload_n 3, 1) := by decide +kernel
theorem dX4_sumOf_52 : decode cX4_sumOf 52 = .ok (.ireturn, 1) := by decide +kernel
theorem dX4_holds_0 : decode cX4_holds 0 = .ok (.iconst 0, 1) := by decide +kernel
theorem dX4_holds_1 : decode cX4_holds 1 = .ok (.istore_n 3, 1) := by decide +kernel
theorem dX4_holds_2 : decode cX4_holds 2 = .ok (.aload_n 0, 1) := by decide +kernel
theorem dX4_holds_3 : decode cX4_holds 3 = .ok (.getfield 29, 3) := by decide +kernel
theorem dX4_holds_6 : decode cX4_holds 6 = .ok (.iload_n 1, 1) := by decide +kernel
theorem dX4_holds_7 : decode cX4_holds 7 = .ok (.iaload, 1) := by decide +kernel
theorem dX4_holds_8 : decode cX4_holds 8 = .ok (.istore 4, 2) := by decide +kernel
theorem dX4_holds_10 : decode cX4_holds 10 = .ok (.iload 4, 2) := by decide +kernel
theorem dX4_holds_12 : decode cX4_holds 12 = .ok (.aload_n 0, 1) := by decide +kernel
theorem dX4_holds_13 : decode cX4_holds 13 = .ok (.getfield 29, 3) := by decide +kernel
theorem dX4_holds_16 : decode cX4_holds 16 = .ok (.iload_n 1, 1) := by decide +kernel
theorem dX4_holds_17 : decode cX4_holds 17 = .ok (.iconst 1, 1) := by decide +kernel
theorem dX4_holds_18 : decode cX4_holds 18 = .ok (.iadd, 1) := by decide +kernel
theorem dX4_holds_19 : decode cX4_holds 19 = .ok (.iaload, 1) := by decide +kernel
theorem dX4_holds_20 : decode cX4_holds 20 = .ok (.if_icmp .ge 143, 3) := by decide +kernel
theorem dX4_holds_23 : decode cX4_holds 23 = .ok (.aload_n 0, 1) := by decide +kernel
theorem dX4_holds_24 : decode cX4_holds 24 = .ok (.getfield 32, 3) := by decide +kernel
theorem dX4_holds_27 : decode cX4_holds 27 = .ok (.iload 4, 2) := by decide +kernel
theorem dX4_holds_29 : decode cX4_holds 29 = .ok (.iaload, 1) := by decide +kernel
theorem dX4_holds_30 : decode cX4_holds 30 = .ok (.istore 5, 2) := by decide +kernel
theorem dX4_holds_32 : decode cX4_holds 32 = .ok (.iload 5, 2) := by decide +kernel
theorem dX4_holds_34 : decode cX4_holds 34 = .ok (.sipush 2000, 3) := by decide +kernel
theorem dX4_holds_37 : decode cX4_holds 37 = .ok (.if_icmp .ge 44, 3) := by decide +kernel
theorem dX4_holds_40 : decode cX4_holds 40 = .ok (.iload_n 3, 1) := by decide +kernel
theorem dX4_holds_41 : decode cX4_holds 41 = .ok (.bipush 32, 2) := by decide +kernel
theorem dX4_holds_43 : decode cX4_holds 43 = .ok (.if_icmp .lt 5, 3) := by decide +kernel
theorem dX4_holds_46 : decode cX4_holds 46 = .ok (.iconst 0, 1) := by decide +kernel
theorem dX4_holds_47 : decode cX4_holds 47 = .ok (.ireturn, 1) := by decide +kernel
theorem dX4_holds_48 : decode cX4_holds 48 = .ok (.aload_n 0, 1) := by decide +kernel
theorem dX4_holds_49 : decode cX4_holds 49 = .ok (.getfield 9, 3) := by decide +kernel
theorem dX4_holds_52 : decode cX4_holds 52 = .ok (.iload_n 3, 1) := by decide +kernel
theorem dX4_holds_53 : decode cX4_holds 53 = .ok (.iload 5, 2) := by decide +kernel
theorem dX4_holds_55 : decode cX4_holds 55 = .ok (.sipush 1000, 3) := by decide +kernel
theorem dX4_holds_58 : decode cX4_holds 58 = .ok (.if_icmp .ge 8, 3) := by decide +kernel
theorem dX4_holds_61 : decode cX4_holds 61 = .ok (.iload 5, 2) := by decide +kernel
theorem dX4_holds_63 : decode cX4_holds 63 = .ok (.goto 11, 3) := by decide +kernel
theorem dX4_holds_66 : decode cX4_holds 66 = .ok (.aload_n 2, 1) := by decide +kernel
theorem dX4_holds_67 : decode cX4_holds 67 = .ok (.iload 5, 2) := by decide +kernel
theorem dX4_holds_69 : decode cX4_holds 69 = .ok (.sipush 1000, 3) := by decide +kernel
theorem dX4_holds_72 : decode cX4_holds 72 = .ok (.isub, 1) := by decide +kernel
theorem dX4_holds_73 : decode cX4_holds 73 = .ok (.iaload, 1) := by decide +kernel
theorem dX4_holds_74 : decode cX4_holds 74 = .ok (.iastore, 1) := by decide +kernel
theorem dX4_holds_75 : decode cX4_holds 75 = .ok (.iinc 3 1, 3) := by decide +kernel
theorem dX4_holds_78 : decode cX4_holds 78 = .ok (.goto 79, 3) := by decide +kernel
theorem dX4_holds_81 : decode cX4_holds 81 = .ok (.iload 5, 2) := by decide +kernel
theorem dX4_holds_83 : decode cX4_holds 83 = .ok (.sipush 2000, 3) := by decide +kernel
theorem dX4_holds_86 : decode cX4_holds 86 = .ok (.if_icmp .ne 31, 3) := by decide +kernel
theorem dX4_holds_89 : decode cX4_holds 89 = .ok (.iload_n 3, 1) := by decide +kernel
theorem dX4_holds_90 : decode cX4_holds 90 = .ok (.iconst 1, 1) := by decide +kernel
theorem dX4_holds_91 : decode cX4_holds 91 = .ok (.if_icmp .ge 5, 3) := by decide +kernel
theorem dX4_holds_94 : decode cX4_holds 94 = .ok (.iconst 0, 1) := by decide +kernel
theorem dX4_holds_95 : decode cX4_holds 95 = .ok (.ireturn, 1) := by decide +kernel
theorem dX4_holds_96 : decode cX4_holds 96 = .ok (.aload_n 0, 1) := by decide +kernel
theorem dX4_holds_97 : decode cX4_holds 97 = .ok (.getfield 9, 3) := by decide +kernel
theorem dX4_holds_100 : decode cX4_holds 100 = .ok (.iload_n 3, 1) := by decide +kernel
theorem dX4_holds_101 : decode cX4_holds 101 = .ok (.iconst 1, 1) := by decide +kernel
theorem dX4_holds_102 : decode cX4_holds 102 = .ok (.isub, 1) := by decide +kernel
theorem dX4_holds_103 : decode cX4_holds 103 = .ok (.iconst 1, 1) := by decide +kernel
theorem dX4_holds_104 : decode cX4_holds 104 = .ok (.aload_n 0, 1) := by decide +kernel
theorem dX4_holds_105 : decode cX4_holds 105 = .ok (.getfield 9, 3) := by decide +kernel
theorem dX4_holds_108 : decode cX4_holds 108 = .ok (.iload_n 3, 1) := by decide +kernel
theorem dX4_holds_109 : decode cX4_holds 109 = .ok (.iconst 1, 1) := by decide +kernel
theorem dX4_holds_110 : decode cX4_holds 110 = .ok (.isub, 1) := by decide +kernel
theorem dX4_holds_111 : decode cX4_holds 111 = .ok (.iaload, 1) := by decide +kernel
theorem dX4_holds_112 : decode cX4_holds 112 = .ok (.isub, 1) := by decide +kernel
theorem dX4_holds_113 : decode cX4_holds 113 = .ok (.iastore, 1) := by decide +kernel
theorem dX4_holds_114 : decode cX4_holds 114 = .ok (.goto 43, 3) := by decide +kernel
theorem dX4_holds_117 : decode cX4_holds 117 = .ok (.iload_n 3, 1) := by decide +kernel
theorem dX4_holds_118 : decode cX4_holds 118 = .ok (.iconst 2, 1) := by decide +kernel
theorem dX4_holds_119 : decode cX4_holds 119 = .ok (.if_icmp .ge 5, 3) := by decide +kernel
theorem dX4_holds_122 : decode cX4_holds 122 = .ok (.iconst 0, 1) := by decide +kernel
theorem dX4_holds_123 : decode cX4_holds 123 = .ok (.ireturn, 1) := by decide +kernel
theorem dX4_holds_124 : decode cX4_holds 124 = .ok (.aload_n 0, 1) := by decide +kernel
theorem dX4_holds_125 : decode cX4_holds 125 = .ok (.getfield 9, 3) := by decide +kernel
theorem dX4_holds_128 : decode cX4_holds 128 = .ok (.iload_n 3, 1) := by decide +kernel
theorem dX4_holds_129 : decode cX4_holds 129 = .ok (.iconst 2, 1) := by decide +kernel
theorem dX4_holds_130 : decode cX4_holds 130 = .ok (.isub, 1) := by decide +kernel
theorem dX4_holds_131 : decode cX4_holds 131 = .ok (.aload_n 0, 1) := by decide +kernel
theorem dX4_holds_132 : decode cX4_holds 132 = .ok (.iload 5, 2) := by decide +kernel
theorem dX4_holds_134 : decode cX4_holds 134 = .ok (.aload_n 0, 1) := by decide +kernel
theorem dX4_holds_135 : decode cX4_holds 135 = .ok (.getfield 9, 3) := by decide +kernel
theorem dX4_holds_138 : decode cX4_holds 138 = .ok (.iload_n 3, 1) := by decide +kernel
theorem dX4_holds_139 : decode cX4_holds 139 = .ok (.iconst 2, 1) := by decide +kernel
theorem dX4_holds_140 : decode cX4_holds 140 = .ok (.isub, 1) := by decide +kernel
theorem dX4_holds_141 : decode cX4_holds 141 = .ok (.iaload, 1) := by decide +kernel
theorem dX4_holds_142 : decode cX4_holds 142 = .ok (.aload_n 0, 1) := by decide +kernel
theorem dX4_holds_143 : decode cX4_holds 143 = .ok (.getfield 9, 3) := by decide +kernel
theorem dX4_holds_146 : decode cX4_holds 146 = .ok (.iload_n 3, 1) := by decide +kernel
theorem dX4_holds_147 : decode cX4_holds 147 = .ok (.iconst 1, 1) := by decide +kernel
theorem dX4_holds_148 : decode cX4_holds 148 = .ok (.isub, 1) := by decide +kernel
theorem dX4_holds_149 : decode cX4_holds 149 = .ok (.iaload, 1) := by decide +kernel
theorem dX4_holds_150 : decode cX4_holds 150 = .ok (.invokevirtual 39, 3) := by decide +kernel
theorem dX4_holds_153 : decode cX4_holds 153 = .ok (.iastore, 1) := by decide +kernel
theorem dX4_holds_154 : decode cX4_holds 154 = .ok (.iinc 3 (-1), 3) := by decide +kernel
theorem dX4_holds_157 : decode cX4_holds 157 = .ok (.iinc 4 1, 3) := by decide +kernel
theorem dX4_holds_160 : decode cX4_holds 160 = .ok (.goto (-150), 3) := by decide +kernel
theorem dX4_holds_163 : decode cX4_holds 163 = .ok (.iload_n 3, 1) := by decide +kernel
theorem dX4_holds_164 : decode cX4_holds 164 = .ok (.ifCond .eq 15, 3) := by decide +kernel
theorem dX4_holds_167 : decode cX4_holds 167 = .ok (.aload_n 0, 1) := by decide +kernel
theorem dX4_holds_168 : decode cX4_holds 168 = .ok (.getfield 9, 3) := by decide +kernel
theorem dX4_holds_171 : decode cX4_holds 171 = .ok (.iload_n 3, 1) := by decide +kernel
theorem dX4_holds_172 : decode cX4_holds 172 = .ok (.iconst 1, 1) := by decide +kernel
theorem dX4_holds_173 : decode cX4_holds 173 = .ok (.isub, 1) := by decide +kernel
theorem dX4_holds_174 : decode cX4_holds 174 = .ok (.iaload, 1) := by decide +kernel
theorem dX4_holds_175 : decode cX4_holds 175 = .ok (.iconst 1, 1) := by decide +kernel
theorem dX4_holds_176 : decode cX4_holds 176 = .ok (.if_icmp .ne 7, 3) := by decide +kernel
theorem dX4_holds_179 : decode cX4_holds 179 = .ok (.iconst 1, 1) := by decide +kernel
theorem dX4_holds_180 : decode cX4_holds 180 = .ok (.goto 4, 3) := by decide +kernel
theorem dX4_holds_183 : decode cX4_holds 183 = .ok (.iconst 0, 1) := by decide +kernel
theorem dX4_holds_184 : decode cX4_holds 184 = .ok (.ireturn, 1) := by decide +kernel
theorem dX4_join_0 : decode cX4_join 0 = .ok (.iload_n 1, 1) := by decide +kernel
theorem dX4_join_1 : decode cX4_join 1 = .ok (.tableswitch 61 2001 2004 #[31, 35, 39, 50], 31) := by decide +kernel
theorem dX4_join_32 : decode cX4_join 32 = .ok (.iload_n 2, 1) := by decide +kernel
theorem dX4_join_33 : decode cX4_join 33 = .ok (.iload_n 3, 1) := by decide +kernel
theorem dX4_join_34 : decode cX4_join 34 = .ok (.iand, 1) := by decide +kernel
theorem dX4_join_35 : decode cX4_join 35 = .ok (.ireturn, 1) := by decide +kernel
theorem dX4_join_36 : decode cX4_join 36 = .ok (.iload_n 2, 1) := by decide +kernel
theorem dX4_join_37 : decode cX4_join 37 = .ok (.iload_n 3, 1) := by decide +kernel
theorem dX4_join_38 : decode cX4_join 38 = .ok (.ior, 1) := by decide +kernel
theorem dX4_join_39 : decode cX4_join 39 = .ok (.ireturn, 1) := by decide +kernel
theorem dX4_join_40 : decode cX4_join 40 = .ok (.iload_n 2, 1) := by decide +kernel
theorem dX4_join_41 : decode cX4_join 41 = .ok (.iload_n 3, 1) := by decide +kernel
theorem dX4_join_42 : decode cX4_join 42 = .ok (.if_icmp .ge 7, 3) := by decide +kernel
theorem dX4_join_45 : decode cX4_join 45 = .ok (.iconst 1, 1) := by decide +kernel
theorem dX4_join_46 : decode cX4_join 46 = .ok (.goto 4, 3) := by decide +kernel
theorem dX4_join_49 : decode cX4_join 49 = .ok (.iconst 0, 1) := by decide +kernel
theorem dX4_join_50 : decode cX4_join 50 = .ok (.ireturn, 1) := by decide +kernel
theorem dX4_join_51 : decode cX4_join 51 = .ok (.iload_n 2, 1) := by decide +kernel
theorem dX4_join_52 : decode cX4_join 52 = .ok (.iload_n 3, 1) := by decide +kernel
theorem dX4_join_53 : decode cX4_join 53 = .ok (.if_icmp .le 7, 3) := by decide +kernel
theorem dX4_join_56 : decode cX4_join 56 = .ok (.iconst 1, 1) := by decide +kernel
theorem dX4_join_57 : decode cX4_join 57 = .ok (.goto 4, 3) := by decide +kernel
theorem dX4_join_60 : decode cX4_join 60 = .ok (.iconst 0, 1) := by decide +kernel
theorem dX4_join_61 : decode cX4_join 61 = .ok (.ireturn, 1) := by decide +kernel
theorem dX4_join_62 : decode cX4_join 62 = .ok (.iload_n 2, 1) := by decide +kernel
theorem dX4_join_63 : decode cX4_join 63 = .ok (.iload_n 3, 1) := by decide +kernel
theorem dX4_join_64 : decode cX4_join 64 = .ok (.iadd, 1) := by decide +kernel
theorem dX4_join_65 : decode cX4_join 65 = .ok (.ireturn, 1) := by decide +kernel
theorem dX5_init_0 : decode cX5_init 0 = .ok (.aload_n 0, 1) := by decide +kernel
theorem dX5_init_1 : decode cX5_init 1 = .ok (.invokespecial 3, 3) := by decide +kernel
theorem dX5_init_4 : decode cX5_init 4 = .ok (.aload_n 0, 1) := by decide +kernel
theorem dX5_init_5 : decode cX5_init 5 = .ok (.bipush 12, 2) := by decide +kernel
theorem dX5_init_7 : decode cX5_init 7 = .ok (.newarray .int, 2) := by decide +kernel
theorem dX5_init_9 : decode cX5_init 9 = .ok (.putfield 11, 3) := by decide +kernel
theorem dX5_init_12 : decode cX5_init 12 = .ok (.aload_n 0, 1) := by decide +kernel
theorem dX5_init_13 : decode cX5_init 13 = .ok (.bipush 12, 2) := by decide +kernel
theorem dX5_init_15 : decode cX5_init 15 = .ok (.newarray .int, 2) := by decide +kernel
theorem dX5_init_17 : decode cX5_init 17 = .ok (.putfield 17, 3) := by decide +kernel
theorem dX5_init_20 : decode cX5_init 20 = .ok (.aload_n 0, 1) := by decide +kernel
theorem dX5_init_21 : decode cX5_init 21 = .ok (.bipush 13, 2) := by decide +kernel
theorem dX5_init_23 : decode cX5_init 23 = .ok (.newarray .int, 2) := by decide +kernel
theorem dX5_init_25 : decode cX5_init 25 = .ok (.putfield 20, 3) := by decide +kernel
theorem dX5_init_28 : decode cX5_init 28 = .ok (.aload_n 0, 1) := by decide +kernel
theorem dX5_init_29 : decode cX5_init 29 = .ok (.sipush 400, 3) := by decide +kernel
theorem dX5_init_32 : decode cX5_init 32 = .ok (.newarray .int, 2) := by decide +kernel
theorem dX5_init_34 : decode cX5_init 34 = .ok (.putfield 25, 3) := by decide +kernel
theorem dX5_init_37 : decode cX5_init 37 = .ok (.aload_n 0, 1) := by decide +kernel
theorem dX5_init_38 : decode cX5_init 38 = .ok (.aload_n 1, 1) := by decide +kernel
theorem dX5_init_39 : decode cX5_init 39 = .ok (.putfield 28, 3) := by decide +kernel
theorem dX5_init_42 : decode cX5_init 42 = .ok (.return_, 1) := by decide +kernel
theorem dX5_readsText_0 : decode cX5_readsText 0 = .ok (.aload_n 0, 1) := by decide +kernel
theorem dX5_readsText_1 : decode cX5_readsText 1 = .ok (.getfield 28, 3) := by decide +kernel
theorem dX5_readsText_4 : decode cX5_readsText 4 = .ok (.invokevirtual 32, 3) := by decide +kernel
theorem dX5_readsText_7 : decode cX5_readsText 7 = .ok (.aload_n 0, 1) := by decide +kernel
theorem dX5_readsText_8 : decode cX5_readsText 8 = .ok (.iconst 0, 1) := by decide +kernel
theorem dX5_readsText_9 : decode cX5_readsText 9 = .ok (.putfield 35, 3) := by decide +kernel
theorem dX5_readsText_12 : decode cX5_readsText 12 = .ok (.aload_n 0, 1) := by decide +kernel
theorem dX5_readsText_13 : decode cX5_readsText 13 = .ok (.iconst 0, 1) := by decide +kernel
theorem dX5_readsText_14 : decode cX5_readsText 14 = .ok (.putfield 39, 3) := by decide +kernel
theorem dX5_readsText_17 : decode cX5_readsText 17 = .ok (.aload_n 0, 1) := by decide +kernel
theorem dX5_readsText_18 : decode cX5_readsText 18 = .ok (.getfield 28, 3) := by decide +kernel
theorem dX5_readsText_21 : decode cX5_readsText 21 = .ok (.getfield 42, 3) := by decide +kernel
theorem dX5_readsText_24 : decode cX5_readsText 24 = .ok (.ifCond .ne 5, 3) := by decide +kernel
theorem dX5_readsText_27 : decode cX5_readsText 27 = .ok (.iconst 1, 1) := by decide +kernel
theorem dX5_readsText_28 : decode cX5_readsText 28 = .ok (.ireturn, 1) := by decide +kernel
theorem dX5_readsText_29 : decode cX5_readsText 29 = .ok (.iconst 0, 1) := by decide +kernel
theorem dX5_readsText_30 : decode cX5_readsText 30 = .ok (.istore_n 1, 1) := by decide +kernel
theorem dX5_readsText_31 : decode cX5_readsText 31 = .ok (.iload_n 1, 1) := by decide +kernel
theorem dX5_readsText_32 : decode cX5_readsText 32 = .ok (.bipush 12, 2) := by decide +kernel
theorem dX5_readsText_34 : decode cX5_readsText 34 = .ok (.if_icmp .ge 50, 3) := by decide +kernel
theorem dX5_readsText_37 : decode cX5_readsText 37 = .ok (.aload_n 0, 1) := by decide +kernel
theorem dX5_readsText_38 : decode cX5_readsText 38 = .ok (.invokevirtual 45, 3) := by decide +kernel
theorem dX5_readsText_41 : decode cX5_readsText 41 = .ok (.ifCond .ne 5, 3) := by decide +kernel
theorem dX5_readsText_44 : decode cX5_readsText 44 = .ok (.iconst 0, 1) := by decide +kernel
theorem dX5_readsText_45 : decode cX5_readsText 45 = .ok (.ireturn, 1) := by decide +kernel
theorem dX5_readsText_46 : decode cX5_readsText 46 = .ok (.aload_n 0, 1) := by decide +kernel
theorem dX5_readsText_47 : decode cX5_readsText 47 = .ok (.getfield 28, 3) := by decide +kernel
theorem dX5_readsText_50 : decode cX5_readsText 50 = .ok (.getfield 42, 3) := by decide +kernel
theorem dX5_readsText_53 : decode cX5_readsText 53 = .ok (.ifCond .ne 5, 3) := by decide +kernel
theorem dX5_readsText_56 : decode cX5_readsText 56 = .ok (.iconst 1, 1) := by decide +kernel
theorem dX5_readsText_57 : decode cX5_readsText 57 = .ok (.ireturn, 1) := by decide +kernel
theorem dX5_readsText_58 : decode cX5_readsText 58 = .ok (.aload_n 0, 1) := by decide +kernel
theorem dX5_readsText_59 : decode cX5_readsText 59 = .ok (.getfield 28, 3) := by decide +kernel
theorem dX5_readsText_62 : decode cX5_readsText 62 = .ok (.bipush 59, 2) := by decide +kernel
theorem dX5_readsText_64 : decode cX5_readsText 64 = .ok (.invokevirtual 49, 3) := by decide +kernel
theorem dX5_readsText_67 : decode cX5_readsText 67 = .ok (.ifCond .ne 11, 3) := by decide +kernel
theorem dX5_readsText_70 : decode cX5_readsText 70 = .ok (.aload_n 0, 1) := by decide +kernel
theorem dX5_readsText_71 : decode cX5_readsText 71 = .ok (.getfield 28, 3) := by decide +kernel
theorem dX5_readsText_74 : decode cX5_readsText 74 = .ok (.invokevirtual 53, 3) := by decide +kernel
theorem dX5_readsText_77 : decode cX5_readsText 77 = .ok (.ireturn, 1) := by decide +kernel
theorem dX5_readsText_78 : decode cX5_readsText 78 = .ok (.iinc 1 1, 3) := by decide +kernel
theorem dX5_readsText_81 : decode cX5_readsText 81 = .ok (.goto (-50), 3) := by decide +kernel
theorem dX5_readsText_84 : decode cX5_readsText 84 = .ok (.aload_n 0, 1) := by decide +kernel
theorem dX5_readsText_85 : decode cX5_readsText 85 = .ok (.getfield 28, 3) := by decide +kernel
theorem dX5_readsText_88 : decode cX5_readsText 88 = .ok (.invokevirtual 53, 3) := by decide +kernel
theorem dX5_readsText_91 : decode cX5_readsText 91 = .ok (.ireturn, 1) := by decide +kernel
theorem dX5_newLaw_0 : decode cX5_newLaw 0 = .ok (.new 9, 3) := by decide +kernel
theorem dX5_newLaw_3 : decode cX5_newLaw 3 = .ok (.dup, 1) := by decide +kernel
theorem dX5_newLaw_4 : decode cX5_newLaw 4 = .ok (.aload_n 0, 1) := by decide +kernel
theorem dX5_newLaw_5 : decode cX5_newLaw 5 = .ok (.getfield 35, 3) := by decide +kernel
theorem dX5_newLaw_8 : decode cX5_newLaw 8 = .ok (.aload_n 0, 1) := by decide +kernel
theorem dX5_newLaw_9 : decode cX5_newLaw 9 = .ok (.getfield 11, 3) := by decide +kernel
theorem dX5_newLaw_12 : decode cX5_newLaw 12 = .ok (.aload_n 0, 1) := by decide +kernel
theorem dX5_newLaw_13 : decode cX5_newLaw 13 = .ok (.getfield 17, 3) := by decide +kernel
theorem dX5_newLaw_16 : decode cX5_newLaw 16 = .ok (.aload_n 0, 1) := by decide +kernel
theorem dX5_newLaw_17 : decode cX5_newLaw 17 = .ok (.getfield 20, 3) := by decide +kernel
theorem dX5_newLaw_20 : decode cX5_newLaw 20 = .ok (.aload_n 0, 1) := by decide +kernel
theorem dX5_newLaw_21 : decode cX5_newLaw 21 = .ok (.getfield 25, 3) := by decide +kernel
theorem dX5_newLaw_24 : decode cX5_newLaw 24 = .ok (.invokespecial 56, 3) := by decide +kernel
theorem dX5_newLaw_27 : decode cX5_newLaw 27 = .ok (.areturn, 1) := by decide +kernel
theorem dX5_readsLine_0 : decode cX5_readsLine 0 = .ok (.aload_n 0, 1) := by decide +kernel
theorem dX5_readsLine_1 : decode cX5_readsLine 1 = .ok (.invokevirtual 59, 3) := by decide +kernel
theorem dX5_readsLine_4 : decode cX5_readsLine 4 = .ok (.istore_n 1, 1) := by decide +kernel
theorem dX5_readsLine_5 : decode cX5_readsLine 5 = .ok (.iload_n 1, 1) := by decide +kernel
theorem dX5_readsLine_6 : decode cX5_readsLine 6 = .ok (.iconst (-1), 1) := by decide +kernel
theorem dX5_readsLine_7 : decode cX5_readsLine 7 = .ok (.if_icmp .eq 12, 3) := by decide +kernel
theorem dX5_readsLine_10 : decode cX5_readsLine 10 = .ok (.aload_n 0, 1) := by decide +kernel
theorem dX5_readsLine_11 : decode cX5_readsLine 11 = .ok (.getfield 35, 3) := by decide +kernel
theorem dX5_readsLine_14 : decode cX5_readsLine 14 = .ok (.bipush 12, 2) := by decide +kernel
theorem dX5_readsLine_16 : decode cX5_readsLine 16 = .ok (.if_icmp .lt 11, 3) := by decide +kernel
theorem dX5_readsLine_19 : decode cX5_readsLine 19 = .ok (.aload_n 0, 1) := by decide +kernel
theorem dX5_readsLine_20 : decode cX5_readsLine 20 = .ok (.getfield 28, 3) := by decide +kernel
theorem dX5_readsLine_23 : decode cX5_readsLine 23 = .ok (.invokevirtual 53, 3) := by decide +kernel
theorem dX5_readsLine_26 : decode cX5_readsLine 26 = .ok (.ireturn, 1) := by decide +kernel
theorem dX5_readsLine_27 : decode cX5_readsLine 27 = .ok (.aload_n 0, 1) := by decide +kernel
theorem dX5_readsLine_28 : decode cX5_readsLine 28 = .ok (.getfield 28, 3) := by decide +kernel
theorem dX5_readsLine_31 : decode cX5_readsLine 31 = .ok (.iconst 0, 1) := by decide +kernel
theorem dX5_readsLine_32 : decode cX5_readsLine 32 = .ok (.bipush 99, 2) := by decide +kernel
theorem dX5_readsLine_34 : decode cX5_readsLine 34 = .ok (.invokevirtual 63, 3) := by decide +kernel
theorem dX5_readsLine_37 : decode cX5_readsLine 37 = .ok (.istore_n 2, 1) := by decide +kernel
theorem dX5_readsLine_38 : decode cX5_readsLine 38 = .ok (.iload_n 2, 1) := by decide +kernel
theorem dX5_readsLine_39 : decode cX5_readsLine 39 = .ok (.iconst (-1), 1) := by decide +kernel
theorem dX5_readsLine_40 : decode cX5_readsLine 40 = .ok (.if_icmp .ne 5, 3) := by decide +kernel
theorem dX5_readsLine_43 : decode cX5_readsLine 43 = .ok (.iconst 0, 1) := by decide +kernel
theorem dX5_readsLine_44 : decode cX5_readsLine 44 = .ok (.ireturn, 1) := by decide +kernel
theorem dX5_readsLine_45 : decode cX5_readsLine 45 = .ok (.aload_n 0, 1) := by decide +kernel
theorem dX5_readsLine_46 : decode cX5_readsLine 46 = .ok (.getfield 28, 3) := by decide +kernel
theorem dX5_readsLine_49 : decode cX5_readsLine 49 = .ok (.ldc 67, 2) := by decide +kernel
theorem dX5_readsLine_51 : decode cX5_readsLine 51 = .ok (.invokevirtual 69, 3) := by decide +kernel
theorem dX5_readsLine_54 : decode cX5_readsLine 54 = .ok (.ifCond .eq 13, 3) := by decide +kernel
theorem dX5_readsLine_57 : decode cX5_readsLine 57 = .ok (.aload_n 0, 1) := by decide +kernel
theorem dX5_readsLine_58 : decode cX5_readsLine 58 = .ok (.iconst 0, 1) := by decide +kernel
theorem dX5_readsLine_59 : decode cX5_readsLine 59 = .ok (.invokevirtual 73, 3) := by decide +kernel
theorem dX5_readsLine_62 : decode cX5_readsLine 62 = .ok (.ifCond .ne 5, 3) := by decide +kernel
theorem dX5_readsLine_65 : decode cX5_readsLine 65 = .ok (.iconst 0, 1) := by decide +kernel
theorem dX5_readsLine_66 : decode cX5_readsLine 66 = .ok (.ireturn, 1) := by decide +kernel
theorem dX5_readsLine_67 : decode cX5_readsLine 67 = .ok (.aload_n 0, 1) := by decide +kernel
theorem dX5_readsLine_68 : decode cX5_readsLine 68 = .ok (.getfield 11, 3) := by decide +kernel
theorem dX5_readsLine_71 : decode cX5_readsLine 71 = .ok (.aload_n 0, 1) := by decide +kernel
theorem dX5_readsLine_72 : decode cX5_readsLine 72 = .ok (.getfield 35, 3) := by decide +kernel
theorem dX5_readsLine_75 : decode cX5_readsLine 75 = .ok (.iload_n 1, 1) := by decide +kernel
theorem dX5_readsLine_76 : decode cX5_readsLine 76 = .ok (.iastore, 1) := by decide +kernel
theorem dX5_readsLine_77 : decode cX5_readsLine 77 = .ok (.aload_n 0, 1) := by decide +kernel
theorem dX5_readsLine_78 : decode cX5_readsLine 78 = .ok (.getfield 17, 3) := by decide +kernel
theorem dX5_readsLine_81 : decode cX5_readsLine 81 = .ok (.aload_n 0, 1) := by decide +kernel
theorem dX5_readsLine_82 : decode cX5_readsLine 82 = .ok (.getfield 35, 3) := by decide +kernel
theorem dX5_readsLine_85 : decode cX5_readsLine 85 = .ok (.iload_n 2, 1) := by decide +kernel
theorem dX5_readsLine_86 : decode cX5_readsLine 86 = .ok (.iastore, 1) := by decide +kernel
theorem dX5_readsLine_87 : decode cX5_readsLine 87 = .ok (.aload_n 0, 1) := by decide +kernel
theorem dX5_readsLine_88 : decode cX5_readsLine 88 = .ok (.dup, 1) := by decide +kernel
theorem dX5_readsLine_89 : decode cX5_readsLine 89 = .ok (.getfield 35, 3) := by decide +kernel
theorem dX5_readsLine_92 : decode cX5_readsLine 92 = .ok (.iconst 1, 1) := by decide +kernel
theorem dX5_readsLine_93 : decode cX5_readsLine 93 = .ok (.iadd, 1) := by decide +kernel
theorem dX5_readsLine_94 : decode cX5_readsLine 94 = .ok (.putfield 35, 3) := by decide +kernel
theorem dX5_readsLine_97 : decode cX5_readsLine 97 = .ok (.aload_n 0, 1) := by decide +kernel
theorem dX5_readsLine_98 : decode cX5_readsLine 98 = .ok (.getfield 20, 3) := by decide +kernel
theorem dX5_readsLine_101 : decode cX5_readsLine 101 = .ok (.aload_n 0, 1) := by decide +kernel
theorem dX5_readsLine_102 : decode cX5_readsLine 102 = .ok (.getfield 35, 3) := by decide +kernel
theorem dX5_readsLine_105 : decode cX5_readsLine 105 = .ok (.aload_n 0, 1) := by decide +kernel
theorem dX5_readsLine_106 : decode cX5_readsLine 106 = .ok (.getfield 39, 3) := by decide +kernel
theorem dX5_readsLine_109 : decode cX5_readsLine 109 = .ok (.iastore, 1) := by decide +kernel
theorem dX5_readsLine_110 : decode cX5_readsLine 110 = .ok (.iconst 1, 1) := by decide +kernel
theorem dX5_readsLine_111 : decode cX5_readsLine 111 = .ok (.ireturn, 1) := by decide +kernel
theorem dX5_takeKind_0 : decode cX5_takeKind 0 = .ok (.aload_n 0, 1) := by decide +kernel
theorem dX5_takeKind_1 : decode cX5_takeKind 1 = .ok (.getfield 28, 3) := by decide +kernel
theorem dX5_takeKind_4 : decode cX5_takeKind 4 = .ok (.ldc 77, 2) := by decide +kernel
theorem dX5_takeKind_6 : decode cX5_takeKind 6 = .ok (.invokevirtual 69, 3) := by decide +kernel
theorem dX5_takeKind_9 : decode cX5_takeKind 9 = .ok (.ifCond .eq 5, 3) := by decide +kernel
theorem dX5_takeKind_12 : decode cX5_takeKind 12 = .ok (.iconst 0, 1) := by decide +kernel
theorem dX5_takeKind_13 : decode cX5_takeKind 13 = .ok (.ireturn, 1) := by decide +kernel
theorem dX5_takeKind_14 : decode cX5_takeKind 14 = .ok (.aload_n 0, 1) := by decide +kernel
theorem dX5_takeKind_15 : decode cX5_takeKind 15 = .ok (.getfield 28, 3) := by decide +kernel
theorem dX5_takeKind_18 : decode cX5_takeKind 18 = .ok (.ldc 79, 2) := by decide +kernel
theorem dX5_takeKind_20 : decode cX5_takeKind 20 = .ok (.invokevirtual 69, 3) := by decide +kernel
theorem dX5_takeKind_23 : decode cX5_takeKind 23 = .ok (.ifCond .eq 5, 3) := by decide +kernel
theorem dX5_takeKind_26 : decode cX5_takeKind 26 = .ok (.iconst 1, 1) := by decide +kernel
theorem dX5_takeKind_27 : decode cX5_takeKind 27 = .ok (.ireturn, 1) := by decide +kernel
theorem dX5_takeKind_28 : decode cX5_takeKind 28 = .ok (.aload_n 0, 1) := by decide +kernel
theorem dX5_takeKind_29 : decode cX5_takeKind 29 = .ok (.getfield 28, 3) := by decide +kernel
theorem dX5_takeKind_32 : decode cX5_takeKind 32 = .ok (.ldc 81, 2) := by decide +kernel
theorem dX5_takeKind_34 : decode cX5_takeKind 34 = .ok (.invokevirtual 69, 3) := by decide +kernel
theorem dX5_takeKind_37 : decode cX5_takeKind 37 = .ok (.ifCond .eq 7, 3) := by decide +kernel
theorem dX5_takeKind_40 : decode cX5_takeKind 40 = .ok (.iconst 2, 1) := by decide +kernel
theorem dX5_takeKind_41 : decode cX5_takeKind 41 = .ok (.goto 4, 3) := by decide +kernel
theorem dX5_takeKind_44 : decode cX5_takeKind 44 = .ok (.iconst (-1), 1) := by decide +kernel
theorem dX5_takeKind_45 : decode cX5_takeKind 45 = .ok (.ireturn, 1) := by decide +kernel
theorem dX5_readsCondition_0 : decode cX5_readsCondition 0 = .ok (.iconst 0, 1) := by decide +kernel
theorem dX5_readsCondition_1 : decode cX5_readsCondition 1 = .ok (.istore_n 2, 1) := by decide +kernel
theorem dX5_readsCondition_2 : decode cX5_readsCondition 2 = .ok (.iload_n 2, 1) := by decide +kernel
theorem dX5_readsCondition_3 : decode cX5_readsCondition 3 = .ok (.sipush 400, 3) := by decide +kernel
theorem dX5_readsCondition_6 : decode cX5_readsCondition 6 = .ok (.if_icmp .ge 90, 3) := by decide +kernel
theorem dX5_readsCondition_9 : decode cX5_readsCondition 9 = .ok (.aload_n 0, 1) := by decide +kernel
theorem dX5_readsCondition_10 : decode cX5_readsCondition 10 = .ok (.iload_n 1, 1) := by decide +kernel
theorem dX5_readsCondition_11 : decode cX5_readsCondition 11 = .ok (.invokevirtual 83, 3) := by decide +kernel
theorem dX5_readsCondition_14 : decode cX5_readsCondition 14 = .ok (.ifCond .ne 5, 3) := by decide +kernel
theorem dX5_readsCondition_17 : decode cX5_readsCondition 17 = .ok (.iconst 0, 1) := by decide +kernel
theorem dX5_readsCondition_18 : decode cX5_readsCondition 18 = .ok (.ireturn, 1) := by decide +kernel
theorem dX5_readsCondition_19 : decode cX5_readsCondition 19 = .ok (.iconst 0, 1) := by decide +kernel
theorem dX5_readsCondition_20 : decode cX5_readsCondition 20 = .ok (.istore_n 3, 1) := by decide +kernel
theorem dX5_readsCondition_21 : decode cX5_readsCondition 21 = .ok (.iload_n 3, 1) := by decide +kernel
theorem dX5_readsCondition_22 : decode cX5_readsCondition 22 = .ok (.sipush 400, 3) := by decide +kernel
theorem dX5_readsCondition_25 : decode cX5_readsCondition 25 = .ok (.if_icmp .ge 39, 3) := by decide +kernel
theorem dX5_readsCondition_28 : decode cX5_readsCondition 28 = .ok (.aload_n 0, 1) := by decide +kernel
theorem dX5_readsCondition_29 : decode cX5_readsCondition 29 = .ok (.getfield 28, 3) := by decide +kernel
theorem dX5_readsCondition_32 : decode cX5_readsCondition 32 = .ok (.ldc 86, 2) := by decide +kernel
theorem dX5_readsCondition_34 : decode cX5_readsCondition 34 = .ok (.invokevirtual 69, 3) := by decide +kernel
theorem dX5_readsCondition_37 : decode cX5_readsCondition 37 = .ok (.ifCond .eq 27, 3) := by decide +kernel
theorem dX5_readsCondition_40 : decode cX5_readsCondition 40 = .ok (.aload_n 0, 1) := by decide +kernel
theorem dX5_readsCondition_41 : decode cX5_readsCondition 41 = .ok (.iload_n 1, 1) := by decide +kernel
theorem dX5_readsCondition_42 : decode cX5_readsCondition 42 = .ok (.invokevirtual 83, 3) := by decide +kernel
theorem dX5_readsCondition_45 : decode cX5_readsCondition 45 = .ok (.ifCond .ne 5, 3) := by decide +kernel
theorem dX5_readsCondition_48 : decode cX5_readsCondition 48 = .ok (.iconst 0, 1) := by decide +kernel
theorem dX5_readsCondition_49 : decode cX5_readsCondition 49 = .ok (.ireturn, 1) := by decide +kernel
theorem dX5_readsCondition_50 : decode cX5_readsCondition 50 = .ok (.aload_n 0, 1) := by decide +kernel
theorem dX5_readsCondition_51 : decode cX5_readsCondition 51 = .ok (.sipush 2001, 3) := by decide +kernel
theorem dX5_readsCondition_54 : decode cX5_readsCondition 54 = .ok (.invokevirtual 88, 3) := by decide +kernel
theorem dX5_readsCondition_57 : decode cX5_readsCondition 57 = .ok (.pop, 1) := by decide +kernel
theorem dX5_readsCondition_58 : decode cX5_readsCondition 58 = .ok (.iinc 3 1, 3) := by decide +kernel
theorem dX5_readsCondition_61 : decode cX5_readsCondition 61 = .ok (.goto (-40), 3) := by decide +kernel
theorem dX5_readsCondition_64 : decode cX5_readsCondition 64 = .ok (.iload_n 2, 1) := by decide +kernel
theorem dX5_readsCondition_65 : decode cX5_readsCondition 65 = .ok (.ifCond .le 11, 3) := by decide +kernel
theorem dX5_readsCondition_68 : decode cX5_readsCondition 68 = .ok (.aload_n 0, 1) := by decide +kernel
theorem dX5_readsCondition_69 : decode cX5_readsCondition 69 = .ok (.sipush 2002, 3) := by decide +kernel
theorem dX5_readsCondition_72 : decode cX5_readsCondition 72 = .ok (.invokevirtual 88, 3) := by decide +kernel
theorem dX5_readsCondition_75 : decode cX5_readsCondition 75 = .ok (.pop, 1) := by decide +kernel
theorem dX5_readsCondition_76 : decode cX5_readsCondition 76 = .ok (.aload_n 0, 1) := by decide +kernel
theorem dX5_readsCondition_77 : decode cX5_readsCondition 77 = .ok (.getfield 28, 3) := by decide +kernel
theorem dX5_readsCondition_80 : decode cX5_readsCondition 80 = .ok (.ldc 91, 2) := by decide +kernel
theorem dX5_readsCondition_82 : decode cX5_readsCondition 82 = .ok (.invokevirtual 69, 3) := by decide +kernel
theorem dX5_readsCondition_85 : decode cX5_readsCondition 85 = .ok (.ifCond .ne 5, 3) := by decide +kernel
theorem dX5_readsCondition_88 : decode cX5_readsCondition 88 = .ok (.iconst 1, 1) := by decide +kernel
theorem dX5_readsCondition_89 : decode cX5_readsCondition 89 = .ok (.ireturn, 1) := by decide +kernel
theorem dX5_readsCondition_90 : decode cX5_readsCondition 90 = .ok (.iinc 2 1, 3) := by decide +kernel
theorem dX5_readsCondition_93 : decode cX5_readsCondition 93 = .ok (.goto (-91), 3) := by decide +kernel
theorem dX5_readsCondition_96 : decode cX5_readsCondition 96 = .ok (.aload_n 0, 1) := by decide +kernel
theorem dX5_readsCondition_97 : decode cX5_readsCondition 97 = .ok (.getfield 28, 3) := by decide +kernel
theorem dX5_readsCondition_100 : decode cX5_readsCondition 100 = .ok (.invokevirtual 53, 3) := by decide +kernel
theorem dX5_readsCondition_103 : decode cX5_readsCondition 103 = .ok (.ireturn, 1) := by decide +kernel
theorem dX5_readsAtom_0 : decode cX5_readsAtom 0 = .ok (.aload_n 0, 1) := by decide +kernel
theorem dX5_readsAtom_1 : decode cX5_readsAtom 1 = .ok (.getfield 28, 3) := by decide +kernel
theorem dX5_readsAtom_4 : decode cX5_readsAtom 4 = .ok (.ldc 93, 2) := by decide +kernel
theorem dX5_readsAtom_6 : decode cX5_readsAtom 6 = .ok (.invokevirtual 95, 3) := by decide +kernel
theorem dX5_readsAtom_9 : decode cX5_readsAtom 9 = .ok (.istore_n 2, 1) := by decide +kernel
theorem dX5_readsAtom_10 : decode cX5_readsAtom 10 = .ok (.aload_n 0, 1) := by decide +kernel
theorem dX5_readsAtom_11 : decode cX5_readsAtom 11 = .ok (.getfield 28, 3) := by decide +kernel
theorem dX5_readsAtom_14 : decode cX5_readsAtom 14 = .ok (.bipush 40, 2) := by decide +kernel
theorem dX5_readsAtom_16 : decode cX5_readsAtom 16 = .ok (.invokevirtual 98, 3) := by decide +kernel
theorem dX5_readsAtom_19 : decode cX5_readsAtom 19 = .ok (.istore_n 3, 1) := by decide +kernel
theorem dX5_readsAtom_20 : decode cX5_readsAtom 20 = .ok (.iload_n 2, 1) := by decide +kernel
theorem dX5_readsAtom_21 : decode cX5_readsAtom 21 = .ok (.ifCond .ne 7, 3) := by decide +kernel
theorem dX5_readsAtom_24 : decode cX5_readsAtom 24 = .ok (.iload_n 3, 1) := by decide +kernel
theorem dX5_readsAtom_25 : decode cX5_readsAtom 25 = .ok (.ifCond .eq 24, 3) := by decide +kernel
theorem dX5_readsAtom_28 : decode cX5_readsAtom 28 = .ok (.iload_n 1, 1) := by decide +kernel
theorem dX5_readsAtom_29 : decode cX5_readsAtom 29 = .ok (.bipush 6, 2) := by decide +kernel
theorem dX5_readsAtom_31 : decode cX5_readsAtom 31 = .ok (.if_icmp .lt 11, 3) := by decide +kernel
theorem dX5_readsAtom_34 : decode cX5_readsAtom 34 = .ok (.aload_n 0, 1) := by decide +kernel
theorem dX5_readsAtom_35 : decode cX5_readsAtom 35 = .ok (.getfield 28, 3) := by decide +kernel
theorem dX5_readsAtom_38 : decode cX5_readsAtom 38 = .ok (.invokevirtual 53, 3) := by decide +kernel
theorem dX5_readsAtom_41 : decode cX5_readsAtom 41 = .ok (.ireturn, 1) := by decide +kernel
theorem dX5_readsAtom_42 : decode cX5_readsAtom 42 = .ok (.aload_n 0, 1) := by decide +kernel
theorem dX5_readsAtom_43 : decode cX5_readsAtom 43 = .ok (.getfield 28, 3) := by decide +kernel
theorem dX5_readsAtom_46 : decode cX5_readsAtom 46 = .ok (.invokevirtual 101, 3) := by decide +kernel
theorem dX5_readsAtom_49 : decode cX5_readsAtom 49 = .ok (.iload_n 3, 1) := by decide +kernel
theorem dX5_readsAtom_50 : decode cX5_readsAtom 50 = .ok (.ifCond .eq 41, 3) := by decide +kernel
theorem dX5_readsAtom_53 : decode cX5_readsAtom 53 = .ok (.aload_n 0, 1) := by decide +kernel
theorem dX5_readsAtom_54 : decode cX5_readsAtom 54 = .ok (.iload_n 1, 1) := by decide +kernel
theorem dX5_readsAtom_55 : decode cX5_readsAtom 55 = .ok (.iconst 1, 1) := by decide +kernel
theorem dX5_readsAtom_56 : decode cX5_readsAtom 56 = .ok (.iadd, 1) := by decide +kernel
theorem dX5_readsAtom_57 : decode cX5_readsAtom 57 = .ok (.invokevirtual 73, 3) := by decide +kernel
theorem dX5_readsAtom_60 : decode cX5_readsAtom 60 = .ok (.ifCond .eq 29, 3) := by decide +kernel
theorem dX5_readsAtom_63 : decode cX5_readsAtom 63 = .ok (.aload_n 0, 1) := by decide +kernel
theorem dX5_readsAtom_64 : decode cX5_readsAtom 64 = .ok (.getfield 28, 3) := by decide +kernel
theorem dX5_readsAtom_67 : decode cX5_readsAtom 67 = .ok (.bipush 41, 2) := by decide +kernel
theorem dX5_readsAtom_69 : decode cX5_readsAtom 69 = .ok (.invokevirtual 49, 3) := by decide +kernel
theorem dX5_readsAtom_72 : decode cX5_readsAtom 72 = .ok (.ifCond .ne 13, 3) := by decide +kernel
theorem dX5_readsAtom_75 : decode cX5_readsAtom 75 = .ok (.aload_n 0, 1) := by decide +kernel
theorem dX5_readsAtom_76 : decode cX5_readsAtom 76 = .ok (.getfield 28, 3) := by decide +kernel
theorem dX5_readsAtom_79 : decode cX5_readsAtom 79 = .ok (.invokevirtual 53, 3) := by decide +kernel
theorem dX5_readsAtom_82 : decode cX5_readsAtom 82 = .ok (.ifCond .eq 7, 3) := by decide +kernel
theorem dX5_readsAtom_85 : decode cX5_readsAtom 85 = .ok (.iconst 1, 1) := by decide +kernel
theorem dX5_readsAtom_86 : decode cX5_readsAtom 86 = .ok (.goto 4, 3) := by decide +kernel
theorem dX5_readsAtom_89 : decode cX5_readsAtom 89 = .ok (.iconst 0, 1) := by decide +kernel
theorem dX5_readsAtom_90 : decode cX5_readsAtom 90 = .ok (.ireturn, 1) := by decide +kernel
theorem dX5_readsAtom_91 : decode cX5_readsAtom 91 = .ok (.iload_n 2, 1) := by decide +kernel
theorem dX5_readsAtom_92 : decode cX5_readsAtom 92 = .ok (.ifCond .eq 29, 3) := by decide +kernel
theorem dX5_readsAtom_95 : decode cX5_readsAtom 95 = .ok (.aload_n 0, 1) := by decide +kernel
theorem dX5_readsAtom_96 : decode cX5_readsAtom 96 = .ok (.iload_n 1, 1) := by decide +kernel
theorem dX5_readsAtom_97 : decode cX5_readsAtom 97 = .ok (.iconst 1, 1) := by decide +kernel
theorem dX5_readsAtom_98 : decode cX5_readsAtom 98 = .ok (.iadd, 1) := by decide +kernel
theorem dX5_readsAtom_99 : decode cX5_readsAtom 99 = .ok (.invokevirtual 83, 3) := by decide +kernel
theorem dX5_readsAtom_102 : decode cX5_readsAtom 102 = .ok (.ifCond .eq 17, 3) := by decide +kernel
theorem dX5_readsAtom_105 : decode cX5_readsAtom 105 = .ok (.aload_n 0, 1) := by decide +kernel
theorem dX5_readsAtom_106 : decode cX5_readsAtom 106 = .ok (.sipush 2000, 3) := by decide +kernel
theorem dX5_readsAtom_109 : decode cX5_readsAtom 109 = .ok (.invokevirtual 88, 3) := by decide +kernel
theorem dX5_readsAtom_112 : decode cX5_readsAtom 112 = .ok (.ifCond .eq 7, 3) := by decide +kernel
theorem dX5_readsAtom_115 : decode cX5_readsAtom 115 = .ok (.iconst 1, 1) := by decide +kernel
theorem dX5_readsAtom_116 : decode cX5_readsAtom 116 = .ok (.goto 4, 3) := by decide +kernel
theorem dX5_readsAtom_119 : decode cX5_readsAtom 119 = .ok (.iconst 0, 1) := by decide +kernel
theorem dX5_readsAtom_120 : decode cX5_readsAtom 120 = .ok (.ireturn, 1) := by decide +kernel
theorem dX5_readsAtom_121 : decode cX5_readsAtom 121 = .ok (.aload_n 0, 1) := by decide +kernel
theorem dX5_readsAtom_122 : decode cX5_readsAtom 122 = .ok (.getfield 28, 3) := by decide +kernel
theorem dX5_readsAtom_125 : decode cX5_readsAtom 125 = .ok (.ldc 104, 2) := by decide +kernel
theorem dX5_readsAtom_127 : decode cX5_readsAtom 127 = .ok (.invokevirtual 69, 3) := by decide +kernel
theorem dX5_readsAtom_130 : decode cX5_readsAtom 130 = .ok (.ifCond .eq 11, 3) := by decide +kernel
theorem dX5_readsAtom_133 : decode cX5_readsAtom 133 = .ok (.aload_n 0, 1) := by decide +kernel
theorem dX5_readsAtom_134 : decode cX5_readsAtom 134 = .ok (.sipush 1007, 3) := by decide +kernel
theorem dX5_readsAtom_137 : decode cX5_readsAtom 137 = .ok (.invokevirtual 88, 3) := by decide +kernel
theorem dX5_readsAtom_140 : decode cX5_readsAtom 140 = .ok (.ireturn, 1) := by decide +kernel
theorem dX5_readsAtom_141 : decode cX5_readsAtom 141 = .ok (.aload_n 0, 1) := by decide +kernel
theorem dX5_readsAtom_142 : decode cX5_readsAtom 142 = .ok (.getfield 28, 3) := by decide +kernel
theorem dX5_readsAtom_145 : decode cX5_readsAtom 145 = .ok (.ldc 106, 2) := by decide +kernel
theorem dX5_readsAtom_147 : decode cX5_readsAtom 147 = .ok (.invokevirtual 69, 3) := by decide +kernel
theorem dX5_readsAtom_150 : decode cX5_readsAtom 150 = .ok (.ifCond .eq 11, 3) := by decide +kernel
theorem dX5_readsAtom_153 : decode cX5_readsAtom 153 = .ok (.aload_n 0, 1) := by decide +kernel
theorem dX5_readsAtom_154 : decode cX5_readsAtom 154 = .ok (.sipush 1008, 3) := by decide +kernel
theorem dX5_readsAtom_157 : decode cX5_readsAtom 157 = .ok (.invokevirtual 88, 3) := by decide +kernel
theorem dX5_readsAtom_160 : decode cX5_readsAtom 160 = .ok (.ireturn, 1) := by decide +kernel
theorem dX5_readsAtom_161 : decode cX5_readsAtom 161 = .ok (.aload_n 0, 1) := by decide +kernel
theorem dX5_readsAtom_162 : decode cX5_readsAtom 162 = .ok (.invokevirtual 108, 3) := by decide +kernel
theorem dX5_readsAtom_165 : decode cX5_readsAtom 165 = .ok (.ifCond .ne 5, 3) := by decide +kernel
theorem dX5_readsAtom_168 : decode cX5_readsAtom 168 = .ok (.iconst 0, 1) := by decide +kernel
theorem dX5_readsAtom_169 : decode cX5_readsAtom 169 = .ok (.ireturn, 1) := by decide +kernel
theorem dX5_readsAtom_170 : decode cX5_readsAtom 170 = .ok (.aload_n 0, 1) := by decide +kernel
theorem dX5_readsAtom_171 : decode cX5_readsAtom 171 = .ok (.invokevirtual 111, 3) := by decide +kernel
theorem dX5_readsAtom_174 : decode cX5_readsAtom 174 = .ok (.istore 4, 2) := by decide +kernel
theorem dX5_readsAtom_176 : decode cX5_readsAtom 176 = .ok (.iload 4, 2) := by decide +kernel
theorem dX5_readsAtom_178 : decode cX5_readsAtom 178 = .ok (.iconst (-1), 1) := by decide +kernel
theorem dX5_readsAtom_179 : decode cX5_readsAtom 179 = .ok (.if_icmp .ne 13, 3) := by decide +kernel
theorem dX5_readsAtom_182 : decode cX5_readsAtom 182 = .ok (.aload_n 0, 1) := by decide +kernel
theorem dX5_readsAtom_183 : decode cX5_readsAtom 183 = .ok (.getfield 28, 3) := by decide +kernel
theorem dX5_readsAtom_186 : decode cX5_readsAtom 186 = .ok (.invokevirtual 53, 3) := by decide +kernel
theorem dX5_readsAtom_189 : decode cX5_readsAtom 189 = .ok (.goto 24, 3) := by decide +kernel
theorem dX5_readsAtom_192 : decode cX5_readsAtom 192 = .ok (.aload_n 0, 1) := by decide +kernel
theorem dX5_readsAtom_193 : decode cX5_readsAtom 193 = .ok (.invokevirtual 108, 3) := by decide +kernel
theorem dX5_readsAtom_196 : decode cX5_readsAtom 196 = .ok (.ifCond .eq 16, 3) := by decide +kernel
theorem dX5_readsAtom_199 : decode cX5_readsAtom 199 = .ok (.aload_n 0, 1) := by decide +kernel
theorem dX5_readsAtom_200 : decode cX5_readsAtom 200 = .ok (.iload 4, 2) := by decide +kernel
theorem dX5_readsAtom_202 : decode cX5_readsAtom 202 = .ok (.invokevirtual 88, 3) := by decide +kernel
theorem dX5_readsAtom_205 : decode cX5_readsAtom 205 = .ok (.ifCond .eq 7, 3) := by decide +kernel
theorem dX5_readsAtom_208 : decode cX5_readsAtom 208 = .ok (.iconst 1, 1) := by decide +kernel
theorem dX5_readsAtom_209 : decode cX5_readsAtom 209 = .ok (.goto 4, 3) := by decide +kernel
theorem dX5_readsAtom_212 : decode cX5_readsAtom 212 = .ok (.iconst 0, 1) := by decide +kernel
theorem dX5_readsAtom_213 : decode cX5_readsAtom 213 = .ok (.ireturn, 1) := by decide +kernel
theorem dX5_takeOrder_0 : decode cX5_takeOrder 0 = .ok (.aload_n 0, 1) := by decide +kernel
theorem dX5_takeOrder_1 : decode cX5_takeOrder 1 = .ok (.getfield 28, 3) := by decide +kernel
theorem dX5_takeOrder_4 : decode cX5_takeOrder 4 = .ok (.bipush 60, 2) := by decide +kernel
theorem dX5_takeOrder_6 : decode cX5_takeOrder 6 = .ok (.invokevirtual 49, 3) := by decide +kernel
theorem dX5_takeOrder_9 : decode cX5_takeOrder 9 = .ok (.ifCond .eq 7, 3) := by decide +kernel
theorem dX5_takeOrder_12 : decode cX5_takeOrder 12 = .ok (.sipush 2003, 3) := by decide +kernel
theorem dX5_takeOrder_15 : decode cX5_takeOrder 15 = .ok (.ireturn, 1) := by decide +kernel
theorem dX5_takeOrder_16 : decode cX5_takeOrder 16 = .ok (.aload_n 0, 1) := by decide +kernel
theorem dX5_takeOrder_17 : decode cX5_takeOrder 17 = .ok (.getfield 28, 3) := by decide +kernel
theorem dX5_takeOrder_20 : decode cX5_takeOrder 20 = .ok (.bipush 62, 2) := by decide +kernel
theorem dX5_takeOrder_22 : decode cX5_takeOrder 22 = .ok (.invokevirtual 49, 3) := by decide +kernel
theorem dX5_takeOrder_25 : decode cX5_takeOrder 25 = .ok (.ifCond .eq 9, 3) := by decide +kernel
theorem dX5_takeOrder_28 : decode cX5_takeOrder 28 = .ok (.sipush 2004, 3) := by decide +kernel
theorem dX5_takeOrder_31 : decode cX5_takeOrder 31 = .ok (.goto 4, 3) := by decide +kernel
theorem dX5_takeOrder_34 : decode cX5_takeOrder 34 = .ok (.iconst (-1), 1) := by decide +kernel
theorem dX5_takeOrder_35 : decode cX5_takeOrder 35 = .ok (.ireturn, 1) := by decide +kernel
theorem dX5_readsSum_0 : decode cX5_readsSum 0 = .ok (.iconst 0, 1) := by decide +kernel
theorem dX5_readsSum_1 : decode cX5_readsSum 1 = .ok (.istore_n 1, 1) := by decide +kernel
theorem dX5_readsSum_2 : decode cX5_readsSum 2 = .ok (.iload_n 1, 1) := by decide +kernel
theorem dX5_readsSum_3 : decode cX5_readsSum 3 = .ok (.sipush 400, 3) := by decide +kernel
theorem dX5_readsSum_6 : decode cX5_readsSum 6 = .ok (.if_icmp .ge 66, 3) := by decide +kernel
theorem dX5_readsSum_9 : decode cX5_readsSum 9 = .ok (.aload_n 0, 1) := by decide +kernel
theorem dX5_readsSum_10 : decode cX5_readsSum 10 = .ok (.invokevirtual 114, 3) := by decide +kernel
theorem dX5_readsSum_13 : decode cX5_readsSum 13 = .ok (.istore_n 2, 1) := by decide +kernel
theorem dX5_readsSum_14 : decode cX5_readsSum 14 = .ok (.iload_n 2, 1) := by decide +kernel
theorem dX5_readsSum_15 : decode cX5_readsSum 15 = .ok (.iconst (-1), 1) := by decide +kernel
theorem dX5_readsSum_16 : decode cX5_readsSum 16 = .ok (.if_icmp .ne 11, 3) := by decide +kernel
theorem dX5_readsSum_19 : decode cX5_readsSum 19 = .ok (.aload_n 0, 1) := by decide +kernel
theorem dX5_readsSum_20 : decode cX5_readsSum 20 = .ok (.getfield 28, 3) := by decide +kernel
theorem dX5_readsSum_23 : decode cX5_readsSum 23 = .ok (.invokevirtual 53, 3) := by decide +kernel
theorem dX5_readsSum_26 : decode cX5_readsSum 26 = .ok (.ireturn, 1) := by decide +kernel
theorem dX5_readsSum_27 : decode cX5_readsSum 27 = .ok (.aload_n 0, 1) := by decide +kernel
theorem dX5_readsSum_28 : decode cX5_readsSum 28 = .ok (.getfield 28, 3) := by decide +kernel
theorem dX5_readsSum_31 : decode cX5_readsSum 31 = .ok (.invokevirtual 101, 3) := by decide +kernel
theorem dX5_readsSum_34 : decode cX5_readsSum 34 = .ok (.aload_n 0, 1) := by decide +kernel
theorem dX5_readsSum_35 : decode cX5_readsSum 35 = .ok (.iload_n 2, 1) := by decide +kernel
theorem dX5_readsSum_36 : decode cX5_readsSum 36 = .ok (.invokevirtual 88, 3) := by decide +kernel
theorem dX5_readsSum_39 : decode cX5_readsSum 39 = .ok (.pop, 1) := by decide +kernel
theorem dX5_readsSum_40 : decode cX5_readsSum 40 = .ok (.iload_n 1, 1) := by decide +kernel
theorem dX5_readsSum_41 : decode cX5_readsSum 41 = .ok (.ifCond .le 11, 3) := by decide +kernel
theorem dX5_readsSum_44 : decode cX5_readsSum 44 = .ok (.aload_n 0, 1) := by decide +kernel
theorem dX5_readsSum_45 : decode cX5_readsSum 45 = .ok (.sipush 2005, 3) := by decide +kernel
theorem dX5_readsSum_48 : decode cX5_readsSum 48 = .ok (.invokevirtual 88, 3) := by decide +kernel
theorem dX5_readsSum_51 : decode cX5_readsSum 51 = .ok (.pop, 1) := by decide +kernel
theorem dX5_readsSum_52 : decode cX5_readsSum 52 = .ok (.aload_n 0, 1) := by decide +kernel
theorem dX5_readsSum_53 : decode cX5_readsSum 53 = .ok (.getfield 28, 3) := by decide +kernel
theorem dX5_readsSum_56 : decode cX5_readsSum 56 = .ok (.bipush 43, 2) := by decide +kernel
theorem dX5_readsSum_58 : decode cX5_readsSum 58 = .ok (.invokevirtual 49, 3) := by decide +kernel
theorem dX5_readsSum_61 : decode cX5_readsSum 61 = .ok (.ifCond .ne 5, 3) := by decide +kernel
theorem dX5_readsSum_64 : decode cX5_readsSum 64 = .ok (.iconst 1, 1) := by decide +kernel
theorem dX5_readsSum_65 : decode cX5_readsSum 65 = .ok (.ireturn, 1) := by decide +kernel
theorem dX5_readsSum_66 : decode cX5_readsSum 66 = .ok (.iinc 1 1, 3) := by decide +kernel
theorem dX5_readsSum_69 : decode cX5_readsSum 69 = .ok (.goto (-67), 3) := by decide +kernel
theorem dX5_readsSum_72 : decode cX5_readsSum 72 = .ok (.aload_n 0, 1) := by decide +kernel
theorem dX5_readsSum_73 : decode cX5_readsSum 73 = .ok (.getfield 28, 3) := by decide +kernel
theorem dX5_readsSum_76 : decode cX5_readsSum 76 = .ok (.invokevirtual 53, 3) := by decide +kernel
theorem dX5_readsSum_79 : decode cX5_readsSum 79 = .ok (.ireturn, 1) := by decide +kernel
theorem dX5_partHere_0 : decode cX5_partHere 0 = .ok (.aload_n 0, 1) := by decide +kernel
theorem dX5_partHere_1 : decode cX5_partHere 1 = .ok (.getfield 28, 3) := by decide +kernel
theorem dX5_partHere_4 : decode cX5_partHere 4 = .ok (.getfield 42, 3) := by decide +kernel
theorem dX5_partHere_7 : decode cX5_partHere 7 = .ok (.iconst 2, 1) := by decide +kernel
theorem dX5_partHere_8 : decode cX5_partHere 8 = .ok (.if_icmp .ne 11, 3) := by decide +kernel
theorem dX5_partHere_11 : decode cX5_partHere 11 = .ok (.aload_n 0, 1) := by decide +kernel
theorem dX5_partHere_12 : decode cX5_partHere 12 = .ok (.getfield 28, 3) := by decide +kernel
theorem dX5_partHere_15 : decode cX5_partHere 15 = .ok (.getfield 117, 3) := by decide +kernel
theorem dX5_partHere_18 : decode cX5_partHere 18 = .ok (.ireturn, 1) := by decide +kernel
theorem dX5_partHere_19 : decode cX5_partHere 19 = .ok (.aload_n 0, 1) := by decide +kernel
theorem dX5_partHere_20 : decode cX5_partHere 20 = .ok (.getfield 28, 3) := by decide +kernel
theorem dX5_partHere_23 : decode cX5_partHere 23 = .ok (.ldc 120, 2) := by decide +kernel
theorem dX5_partHere_25 : decode cX5_partHere 25 = .ok (.invokevirtual 95, 3) := by decide +kernel
theorem dX5_partHere_28 : decode cX5_partHere 28 = .ok (.ifCond .eq 7, 3) := by decide +kernel
theorem dX5_partHere_31 : decode cX5_partHere 31 = .ok (.sipush 1000, 3) := by decide +kernel
theorem dX5_partHere_34 : decode cX5_partHere 34 = .ok (.ireturn, 1) := by decide +kernel
theorem dX5_partHere_35 : decode cX5_partHere 35 = .ok (.aload_n 0, 1) := by decide +kernel
theorem dX5_partHere_36 : decode cX5_partHere 36 = .ok (.getfield 28, 3) := by decide +kernel
theorem dX5_partHere_39 : decode cX5_partHere 39 = .ok (.ldc 122, 2) := by decide +kernel
theorem dX5_partHere_41 : decode cX5_partHere 41 = .ok (.invokevirtual 95, 3) := by decide +kernel
theorem dX5_partHere_44 : decode cX5_partHere 44 = .ok (.ifCond .eq 7, 3) := by decide +kernel
theorem dX5_partHere_47 : decode cX5_partHere 47 = .ok (.sipush 1001, 3) := by decide +kernel
theorem dX5_partHere_50 : decode cX5_partHere 50 = .ok (.ireturn, 1) := by decide +kernel
theorem dX5_partHere_51 : decode cX5_partHere 51 = .ok (.aload_n 0, 1) := by decide +kernel
theorem dX5_partHere_52 : decode cX5_partHere 52 = .ok (.getfield 28, 3) := by decide +kernel
theorem dX5_partHere_55 : decode cX5_partHere 55 = .ok (.ldc 124, 2) := by decide +kernel
theorem dX5_partHere_57 : decode cX5_partHere 57 = .ok (.invokevirtual 95, 3) := by decide +kernel
theorem dX5_partHere_60 : decode cX5_partHere 60 = .ok (.ifCond .eq 7, 3) := by decide +kernel
theorem dX5_partHere_63 : decode cX5_partHere 63 = .ok (.sipush 1002, 3) := by decide +kernel
theorem dX5_partHere_66 : decode cX5_partHere 66 = .ok (.ireturn, 1) := by decide +kernel
theorem dX5_partHere_67 : decode cX5_partHere 67 = .ok (.aload_n 0, 1) := by decide +kernel
theorem dX5_partHere_68 : decode cX5_partHere 68 = .ok (.getfield 28, 3) := by decide +kernel
theorem dX5_partHere_71 : decode cX5_partHere 71 = .ok (.ldc 126, 2) := by decide +kernel
theorem dX5_partHere_73 : decode cX5_partHere 73 = .ok (.invokevirtual 95, 3) := by decide +kernel
theorem dX5_partHere_76 : decode cX5_partHere 76 = .ok (.ifCond .eq 7, 3) := by decide +kernel
theorem dX5_partHere_79 : decode cX5_partHere 79 = .ok (.sipush 1003, 3) := by decide +kernel
theorem dX5_partHere_82 : decode cX5_partHere 82 = .ok (.ireturn, 1) := by decide +kernel
theorem dX5_partHere_83 : decode cX5_partHere 83 = .ok (.aload_n 0, 1) := by decide +kernel
theorem dX5_partHere_84 : decode cX5_partHere 84 = .ok (.getfield 28, 3) := by decide +kernel
theorem dX5_partHere_87 : decode cX5_partHere 87 = .ok (.ldc 128, 2) := by decide +kernel
theorem dX5_partHere_89 : decode cX5_partHere 89 = .ok (.invokevirtual 95, 3) := by decide +kernel
theorem dX5_partHere_92 : decode cX5_partHere 92 = .ok (.ifCond .eq 7, 3) := by decide +kernel
theorem dX5_partHere_95 : decode cX5_partHere 95 = .ok (.sipush 1004, 3) := by decide +kernel
theorem dX5_partHere_98 : decode cX5_partHere 98 = .ok (.ireturn, 1) := by decide +kernel
theorem dX5_partHere_99 : decode cX5_partHere 99 = .ok (.aload_n 0, 1) := by decide +kernel
theorem dX5_partHere_100 : decode cX5_partHere 100 = .ok (.getfield 28, 3) := by decide +kernel
theorem dX5_partHere_103 : decode cX5_partHere 103 = .ok (.ldc 130, 2) := by decide +kernel
theorem dX5_partHere_105 : decode cX5_partHere 105 = .ok (.invokevirtual 95, 3) := by decide +kernel
theorem dX5_partHere_108 : decode cX5_partHere 108 = .ok (.ifCond .eq 7, 3) := by decide +kernel
theorem dX5_partHere_111 : decode cX5_partHere 111 = .ok (.sipush 1005, 3) := by decide +kernel
theorem dX5_partHere_114 : decode cX5_partHere 114 = .ok (.ireturn, 1) := by decide +kernel
theorem dX5_partHere_115 : decode cX5_partHere 115 = .ok (.aload_n 0, 1) := by decide +kernel
theorem dX5_partHere_116 : decode cX5_partHere 116 = .ok (.getfield 28, 3) := by decide +kernel
theorem dX5_partHere_119 : decode cX5_partHere 119 = .ok (.ldc 132, 2) := by decide +kernel
theorem dX5_partHere_121 : decode cX5_partHere 121 = .ok (.invokevirtual 95, 3) := by decide +kernel
theorem dX5_partHere_124 : decode cX5_partHere 124 = .ok (.ifCond .eq 9, 3) := by decide +kernel
theorem dX5_partHere_127 : decode cX5_partHere 127 = .ok (.sipush 1006, 3) := by decide +kernel
theorem dX5_partHere_130 : decode cX5_partHere 130 = .ok (.goto 4, 3) := by decide +kernel
theorem dX5_partHere_133 : decode cX5_partHere 133 = .ok (.iconst (-1), 1) := by decide +kernel
theorem dX5_partHere_134 : decode cX5_partHere 134 = .ok (.ireturn, 1) := by decide +kernel
theorem dX5_put_0 : decode cX5_put 0 = .ok (.aload_n 0, 1) := by decide +kernel
theorem dX5_put_1 : decode cX5_put 1 = .ok (.getfield 39, 3) := by decide +kernel
theorem dX5_put_4 : decode cX5_put 4 = .ok (.aload_n 0, 1) := by decide +kernel
theorem dX5_put_5 : decode cX5_put 5 = .ok (.getfield 25, 3) := by decide +kernel
theorem dX5_put_8 : decode cX5_put 8 = .ok (.arraylength, 1) := by decide +kernel
theorem dX5_put_9 : decode cX5_put 9 = .ok (.if_icmp .ge 23, 3) := by decide +kernel
theorem dX5_put_12 : decode cX5_put 12 = .ok (.aload_n 0, 1) := by decide +kernel
theorem dX5_put_13 : decode cX5_put 13 = .ok (.getfield 25, 3) := by decide +kernel
theorem dX5_put_16 : decode cX5_put 16 = .ok (.aload_n 0, 1) := by decide +kernel
theorem dX5_put_17 : decode cX5_put 17 = .ok (.getfield 39, 3) := by decide +kernel
theorem dX5_put_20 : decode cX5_put 20 = .ok (.iload_n 1, 1) := by decide +kernel
theorem dX5_put_21 : decode cX5_put 21 = .ok (.iastore, 1) := by decide +kernel
theorem dX5_put_22 : decode cX5_put 22 = .ok (.aload_n 0, 1) := by decide +kernel
theorem dX5_put_23 : decode cX5_put 23 = .ok (.dup, 1) := by decide +kernel
theorem dX5_put_24 : decode cX5_put 24 = .ok (.getfield 39, 3) := by decide +kernel
theorem dX5_put_27 : decode cX5_put 27 = .ok (.iconst 1, 1) := by decide +kernel
theorem dX5_put_28 : decode cX5_put 28 = .ok (.iadd, 1) := by decide +kernel
theorem dX5_put_29 : decode cX5_put 29 = .ok (.putfield 39, 3) := by decide +kernel
theorem dX5_put_32 : decode cX5_put 32 = .ok (.iconst 1, 1) := by decide +kernel
theorem dX5_put_33 : decode cX5_put 33 = .ok (.ireturn, 1) := by decide +kernel
theorem dX6_init_0 : decode cX6_init 0 = .ok (.aload_n 0, 1) := by decide +kernel
theorem dX6_init_1 : decode cX6_init 1 = .ok (.invokespecial 5, 3) := by decide +kernel
theorem dX6_init_4 : decode cX6_init 4 = .ok (.aload_n 0, 1) := by decide +kernel
theorem dX6_init_5 : decode cX6_init 5 = .ok (.bipush 7, 2) := by decide +kernel
theorem dX6_init_7 : decode cX6_init 7 = .ok (.newarray .int, 2) := by decide +kernel
theorem dX6_init_9 : decode cX6_init 9 = .ok (.putfield 11, 3) := by decide +kernel
theorem dX6_init_12 : decode cX6_init 12 = .ok (.aload_n 0, 1) := by decide +kernel
theorem dX6_init_13 : decode cX6_init 13 = .ok (.bipush 7, 2) := by decide +kernel
theorem dX6_init_15 : decode cX6_init 15 = .ok (.newarray .int, 2) := by decide +kernel
theorem dX6_init_17 : decode cX6_init 17 = .ok (.putfield 15, 3) := by decide +kernel
theorem dX6_init_20 : decode cX6_init 20 = .ok (.aload_n 0, 1) := by decide +kernel
theorem dX6_init_21 : decode cX6_init 21 = .ok (.sipush 1161, 3) := by decide +kernel
theorem dX6_init_24 : decode cX6_init 24 = .ok (.newarray .int, 2) := by decide +kernel
theorem dX6_init_26 : decode cX6_init 26 = .ok (.putfield 18, 3) := by decide +kernel
theorem dX6_init_29 : decode cX6_init 29 = .ok (.aload_n 0, 1) := by decide +kernel
theorem dX6_init_30 : decode cX6_init 30 = .ok (.aload_n 1, 1) := by decide +kernel
theorem dX6_init_31 : decode cX6_init 31 = .ok (.putfield 21, 3) := by decide +kernel
theorem dX6_init_34 : decode cX6_init 34 = .ok (.return_, 1) := by decide +kernel
theorem dX6_changeOf_0 : decode cX6_changeOf 0 = .ok (.aload_n 0, 1) := by decide +kernel
theorem dX6_changeOf_1 : decode cX6_changeOf 1 = .ok (.getfield 21, 3) := by decide +kernel
theorem dX6_changeOf_4 : decode cX6_changeOf 4 = .ok (.getfield 25, 3) := by decide +kernel
theorem dX6_changeOf_7 : decode cX6_changeOf 7 = .ok (.iload_n 2, 1) := by decide +kernel
theorem dX6_changeOf_8 : decode cX6_changeOf 8 = .ok (.iaload, 1) := by decide +kernel
theorem dX6_changeOf_9 : decode cX6_changeOf 9 = .ok (.istore_n 3, 1) := by decide +kernel
theorem dX6_changeOf_10 : decode cX6_changeOf 10 = .ok (.iconst 0, 1) := by decide +kernel
theorem dX6_changeOf_11 : decode cX6_changeOf 11 = .ok (.istore 4, 2) := by decide +kernel
theorem dX6_changeOf_13 : decode cX6_changeOf 13 = .ok (.iload 4, 2) := by decide +kernel
theorem dX6_changeOf_15 : decode cX6_changeOf 15 = .ok (.iload_n 3, 1) := by decide +kernel
theorem dX6_changeOf_16 : decode cX6_changeOf 16 = .ok (.if_icmp .gt 18, 3) := by decide +kernel
theorem dX6_changeOf_19 : decode cX6_changeOf 19 = .ok (.aload_n 0, 1) := by decide +kernel
theorem dX6_changeOf_20 : decode cX6_changeOf 20 = .ok (.getfield 11, 3) := by decide +kernel
theorem dX6_changeOf_23 : decode cX6_changeOf 23 = .ok (.iload 4, 2) := by decide +kernel
theorem dX6_changeOf_25 : decode cX6_changeOf 25 = .ok (.iload 4, 2) := by decide +kernel
theorem dX6_changeOf_27 : decode cX6_changeOf 27 = .ok (.iastore, 1) := by decide +kernel
theorem dX6_changeOf_28 : decode cX6_changeOf 28 = .ok (.iinc 4 1, 3) := by decide +kernel
theorem dX6_changeOf_31 : decode cX6_changeOf 31 = .ok (.goto (-18), 3) := by decide +kernel
theorem dX6_changeOf_34 : decode cX6_changeOf 34 = .ok (.iconst 0, 1) := by decide +kernel
theorem dX6_changeOf_35 : decode cX6_changeOf 35 = .ok (.istore 4, 2) := by decide +kernel
theorem dX6_changeOf_37 : decode cX6_changeOf 37 = .ok (.iload 4, 2) := by decide +kernel
theorem dX6_changeOf_39 : decode cX6_changeOf 39 = .ok (.aload_n 0, 1) := by decide +kernel
theorem dX6_changeOf_40 : decode cX6_changeOf 40 = .ok (.getfield 21, 3) := by decide +kernel
theorem dX6_changeOf_43 : decode cX6_changeOf 43 = .ok (.getfield 25, 3) := by decide +kernel
theorem dX6_changeOf_46 : decode cX6_changeOf 46 = .ok (.iload_n 1, 1) := by decide +kernel
theorem dX6_changeOf_47 : decode cX6_changeOf 47 = .ok (.iaload, 1) := by decide +kernel
theorem dX6_changeOf_48 : decode cX6_changeOf 48 = .ok (.if_icmp .ge 125, 3) := by decide +kernel
theorem dX6_changeOf_51 : decode cX6_changeOf 51 = .ok (.aload_n 0, 1) := by decide +kernel
theorem dX6_changeOf_52 : decode cX6_changeOf 52 = .ok (.getfield 15, 3) := by decide +kernel
theorem dX6_changeOf_55 : decode cX6_changeOf 55 = .ok (.iconst 0, 1) := by decide +kernel
theorem dX6_changeOf_56 : decode cX6_changeOf 56 = .ok (.iload 4, 2) := by decide +kernel
theorem dX6_changeOf_58 : decode cX6_changeOf 58 = .ok (.iconst 1, 1) := by decide +kernel
theorem dX6_changeOf_59 : decode cX6_changeOf 59 = .ok (.iadd, 1) := by decide +kernel
theorem dX6_changeOf_60 : decode cX6_changeOf 60 = .ok (.iastore, 1) := by decide +kernel
theorem dX6_changeOf_61 : decode cX6_changeOf 61 = .ok (.iconst 0, 1) := by decide +kernel
theorem dX6_changeOf_62 : decode cX6_changeOf 62 = .ok (.istore 5, 2) := by decide +kernel
theorem dX6_changeOf_64 : decode cX6_changeOf 64 = .ok (.iload 5, 2) := by decide +kernel
theorem dX6_changeOf_66 : decode cX6_changeOf 66 = .ok (.iload_n 3, 1) := by decide +kernel
theorem dX6_changeOf_67 : decode cX6_changeOf 67 = .ok (.if_icmp .ge 82, 3) := by decide +kernel
theorem dX6_changeOf_70 : decode cX6_changeOf 70 = .ok (.aload_n 0, 1) := by decide +kernel
theorem dX6_changeOf_71 : decode cX6_changeOf 71 = .ok (.getfield 21, 3) := by decide +kernel
theorem dX6_changeOf_74 : decode cX6_changeOf 74 = .ok (.iload_n 1, 1) := by decide +kernel
theorem dX6_changeOf_75 : decode cX6_changeOf 75 = .ok (.iload 4, 2) := by decide +kernel
theorem dX6_changeOf_77 : decode cX6_changeOf 77 = .ok (.invokevirtual 30, 3) := by decide +kernel
theorem dX6_changeOf_80 : decode cX6_changeOf 80 = .ok (.aload_n 0, 1) := by decide +kernel
theorem dX6_changeOf_81 : decode cX6_changeOf 81 = .ok (.getfield 21, 3) := by decide +kernel
theorem dX6_changeOf_84 : decode cX6_changeOf 84 = .ok (.iload_n 2, 1) := by decide +kernel
theorem dX6_changeOf_85 : decode cX6_changeOf 85 = .ok (.iload 5, 2) := by decide +kernel
theorem dX6_changeOf_87 : decode cX6_changeOf 87 = .ok (.invokevirtual 30, 3) := by decide +kernel
theorem dX6_changeOf_90 : decode cX6_changeOf 90 = .ok (.if_icmp .ne 7, 3) := by decide +kernel
theorem dX6_changeOf_93 : decode cX6_changeOf 93 = .ok (.iconst 0, 1) := by decide +kernel
theorem dX6_changeOf_94 : decode cX6_changeOf 94 = .ok (.goto 4, 3) := by decide +kernel
theorem dX6_changeOf_97 : decode cX6_changeOf 97 = .ok (.iconst 1, 1) := by decide +kernel
theorem dX6_changeOf_98 : decode cX6_changeOf 98 = .ok (.istore 6, 2) := by decide +kernel
theorem dX6_changeOf_100 : decode cX6_changeOf 100 = .ok (.aload_n 0, 1) := by decide +kernel
theorem dX6_changeOf_101 : decode cX6_changeOf 101 = .ok (.getfield 15, 3) := by decide +kernel
theorem dX6_changeOf_104 : decode cX6_changeOf 104 = .ok (.iload 5, 2) := by decide +kernel
theorem dX6_changeOf_106 : decode cX6_changeOf 106 = .ok (.iconst 1, 1) := by decide +kernel
theorem dX6_changeOf_107 : decode cX6_changeOf 107 = .ok (.iadd, 1) := by decide +kernel
theorem dX6_changeOf_108 : decode cX6_changeOf 108 = .ok (.aload_n 0, 1) := by decide +kernel
theorem dX6_changeOf_109 : decode cX6_changeOf 109 = .ok (.getfield 11, 3) := by decide +kernel
theorem dX6_changeOf_112 : decode cX6_changeOf 112 = .ok (.iload 5, 2) := by decide +kernel
theorem dX6_changeOf_114 : decode cX6_changeOf 114 = .ok (.iaload, 1) := by decide +kernel
theorem dX6_changeOf_115 : decode cX6_changeOf 115 = .ok (.iload 6, 2) := by decide +kernel
theorem dX6_changeOf_117 : decode cX6_changeOf 117 = .ok (.iadd, 1) := by decide +kernel
theorem dX6_changeOf_118 : decode cX6_changeOf 118 = .ok (.aload_n 0, 1) := by decide +kernel
theorem dX6_changeOf_119 : decode cX6_changeOf 119 = .ok (.getfield 11, 3) := by decide +kernel
theorem dX6_changeOf_122 : decode cX6_changeOf 122 = .ok (.iload 5, 2) := by decide +kernel
theorem dX6_changeOf_124 : decode cX6_changeOf 124 = .ok (.iconst 1, 1) := by decide +kernel
theorem dX6_changeOf_125 : decode cX6_changeOf 125 = .ok (.iadd, 1) := by decide +kernel
theorem dX6_changeOf_126 : decode cX6_changeOf 126 = .ok (.iaload, 1) := by decide +kernel
theorem dX6_changeOf_127 : decode cX6_changeOf 127 = .ok (.aload_n 0, 1) := by decide +kernel
theorem dX6_changeOf_128 : decode cX6_changeOf 128 = .ok (.getfield 15, 3) := by decide +kernel
theorem dX6_changeOf_131 : decode cX6_changeOf 131 = .ok (.iload 5, 2) := by decide +kernel
theorem dX6_changeOf_133 : decode cX6_changeOf 133 = .ok (.iaload, 1) := by decide +kernel
theorem dX6_changeOf_134 : decode cX6_changeOf 134 = .ok (.invokestatic 34, 3) := by decide +kernel
theorem dX6_changeOf_137 : decode cX6_changeOf 137 = .ok (.iconst 1, 1) := by decide +kernel
theorem dX6_changeOf_138 : decode cX6_changeOf 138 = .ok (.iadd, 1) := by decide +kernel
theorem dX6_changeOf_139 : decode cX6_changeOf 139 = .ok (.invokestatic 34, 3) := by decide +kernel
theorem dX6_changeOf_142 : decode cX6_changeOf 142 = .ok (.iastore, 1) := by decide +kernel
theorem dX6_changeOf_143 : decode cX6_changeOf 143 = .ok (.iinc 5 1, 3) := by decide +kernel
theorem dX6_changeOf_146 : decode cX6_changeOf 146 = .ok (.goto (-82), 3) := by decide +kernel
theorem dX6_changeOf_149 : decode cX6_changeOf 149 = .ok (.aload_n 0, 1) := by decide +kernel
theorem dX6_changeOf_150 : decode cX6_changeOf 150 = .ok (.getfield 15, 3) := by decide +kernel
theorem dX6_changeOf_153 : decode cX6_changeOf 153 = .ok (.iconst 0, 1) := by decide +kernel
theorem dX6_changeOf_154 : decode cX6_changeOf 154 = .ok (.aload_n 0, 1) := by decide +kernel
theorem dX6_changeOf_155 : decode cX6_changeOf 155 = .ok (.getfield 11, 3) := by decide +kernel
theorem dX6_changeOf_158 : decode cX6_changeOf 158 = .ok (.iconst 0, 1) := by decide +kernel
theorem dX6_changeOf_159 : decode cX6_changeOf 159 = .ok (.aload_n 0, 1) := by decide +kernel
theorem dX6_changeOf_160 : decode cX6_changeOf 160 = .ok (.getfield 11, 3) := by decide +kernel
theorem dX6_changeOf_163 : decode cX6_changeOf 163 = .ok (.arraylength, 1) := by decide +kernel
theorem dX6_changeOf_164 : decode cX6_changeOf 164 = .ok (.invokestatic 39, 3) := by decide +kernel
theorem dX6_changeOf_167 : decode cX6_changeOf 167 = .ok (.iinc 4 1, 3) := by decide +kernel
theorem dX6_changeOf_170 : decode cX6_changeOf 170 = .ok (.goto (-133), 3) := by decide +kernel
theorem dX6_changeOf_173 : decode cX6_changeOf 173 = .ok (.aload_n 0, 1) := by decide +kernel
theorem dX6_changeOf_174 : decode cX6_changeOf 174 = .ok (.getfield 11, 3) := by decide +kernel
theorem dX6_changeOf_177 : decode cX6_changeOf 177 = .ok (.iload_n 3, 1) := by decide +kernel
theorem dX6_changeOf_178 : decode cX6_changeOf 178 = .ok (.iaload, 1) := by decide +kernel
theorem dX6_changeOf_179 : decode cX6_changeOf 179 = .ok (.ireturn, 1) := by decide +kernel
theorem dX6_closestTo_0 : decode cX6_closestTo 0 = .ok (.iconst (-1), 1) := by decide +kernel
theorem dX6_closestTo_1 : decode cX6_closestTo 1 = .ok (.istore_n 2, 1) := by decide +kernel
theorem dX6_closestTo_2 : decode cX6_closestTo 2 = .ok (.ldc 45, 2) := by decide +kernel
theorem dX6_closestTo_4 : decode cX6_closestTo 4 = .ok (.istore_n 3, 1) := by decide +kernel
theorem dX6_closestTo_5 : decode cX6_closestTo 5 = .ok (.iconst 0, 1) := by decide +kernel
theorem dX6_closestTo_6 : decode cX6_closestTo 6 = .ok (.istore 4, 2) := by decide +kernel
theorem dX6_closestTo_8 : decode cX6_closestTo 8 = .ok (.iload 4, 2) := by decide +kernel
theorem dX6_closestTo_10 : decode cX6_closestTo 10 = .ok (.aload_n 0, 1) := by decide +kernel
theorem dX6_closestTo_11 : decode cX6_closestTo 11 = .ok (.getfield 21, 3) := by decide +kernel
theorem dX6_closestTo_14 : decode cX6_closestTo 14 = .ok (.getfield 46, 3) := by decide +kernel
theorem dX6_closestTo_17 : decode cX6_closestTo 17 = .ok (.if_icmp .ge 41, 3) := by decide +kernel
theorem dX6_closestTo_20 : decode cX6_closestTo 20 = .ok (.iload 4, 2) := by decide +kernel
theorem dX6_closestTo_22 : decode cX6_closestTo 22 = .ok (.iload_n 1, 1) := by decide +kernel
theorem dX6_closestTo_23 : decode cX6_closestTo 23 = .ok (.if_icmp .ne 8, 3) := by decide +kernel
theorem dX6_closestTo_26 : decode cX6_closestTo 26 = .ok (.ldc 45, 2) := by decide +kernel
theorem dX6_closestTo_28 : decode cX6_closestTo 28 = .ok (.goto 10, 3) := by decide +kernel
theorem dX6_closestTo_31 : decode cX6_closestTo 31 = .ok (.aload_n 0, 1) := by decide +kernel
theorem dX6_closestTo_32 : decode cX6_closestTo 32 = .ok (.iload_n 1, 1) := by decide +kernel
theorem dX6_closestTo_33 : decode cX6_closestTo 33 = .ok (.iload 4, 2) := by decide +kernel
theorem dX6_closestTo_35 : decode cX6_closestTo 35 = .ok (.invokevirtual 50, 3) := by decide +kernel
theorem dX6_closestTo_38 : decode cX6_closestTo 38 = .ok (.istore 5, 2) := by decide +kernel
theorem dX6_closestTo_40 : decode cX6_closestTo 40 = .ok (.iload 5, 2) := by decide +kernel
theorem dX6_closestTo_42 : decode cX6_closestTo 42 = .ok (.iload_n 3, 1) := by decide +kernel
theorem dX6_closestTo_43 : decode cX6_closestTo 43 = .ok (.if_icmp .ge 9, 3) := by decide +kernel
theorem dX6_closestTo_46 : decode cX6_closestTo 46 = .ok (.iload 4, 2) := by decide +kernel
theorem dX6_closestTo_48 : decode cX6_closestTo 48 = .ok (.istore_n 2, 1) := by decide +kernel
theorem dX6_closestTo_49 : decode cX6_closestTo 49 = .ok (.iload 5, 2) := by decide +kernel
theorem dX6_closestTo_51 : decode cX6_closestTo 51 = .ok (.istore_n 3, 1) := by decide +kernel
theorem dX6_closestTo_52 : decode cX6_closestTo 52 = .ok (.iinc 4 1, 3) := by decide +kernel
theorem dX6_closestTo_55 : decode cX6_closestTo 55 = .ok (.goto (-47), 3) := by decide +kernel
theorem dX6_closestTo_58 : decode cX6_closestTo 58 = .ok (.iload_n 2, 1) := by decide +kernel
theorem dX6_closestTo_59 : decode cX6_closestTo 59 = .ok (.ireturn, 1) := by decide +kernel
theorem dX6_stepsBetween_0 : decode cX6_stepsBetween 0 = .ok (.iconst 1, 1) := by decide +kernel
theorem dX6_stepsBetween_1 : decode cX6_stepsBetween 1 = .ok (.iload_n 1, 1) := by decide +kernel
theorem dX6_stepsBetween_2 : decode cX6_stepsBetween 2 = .ok (.ishl, 1) := by decide +kernel
theorem dX6_stepsBetween_3 : decode cX6_stepsBetween 3 = .ok (.istore_n 3, 1) := by decide +kernel
theorem dX6_stepsBetween_4 : decode cX6_stepsBetween 4 = .ok (.iconst 0, 1) := by decide +kernel
theorem dX6_stepsBetween_5 : decode cX6_stepsBetween 5 = .ok (.istore 4, 2) := by decide +kernel
theorem dX6_stepsBetween_7 : decode cX6_stepsBetween 7 = .ok (.iload 4, 2) := by decide +kernel
theorem dX6_stepsBetween_9 : decode cX6_stepsBetween 9 = .ok (.bipush 8, 2) := by decide +kernel
theorem dX6_stepsBetween_11 : decode cX6_stepsBetween 11 = .ok (.if_icmp .ge 29, 3) := by decide +kernel
theorem dX6_stepsBetween_14 : decode cX6_stepsBetween 14 = .ok (.iload_n 3, 1) := by decide +kernel
theorem dX6_stepsBetween_15 : decode cX6_stepsBetween 15 = .ok (.iload_n 2, 1) := by decide +kernel
theorem dX6_stepsBetween_16 : decode cX6_stepsBetween 16 = .ok (.ishr, 1) := by decide +kernel
theorem dX6_stepsBetween_17 : decode cX6_stepsBetween 17 = .ok (.iconst 1, 1) := by decide +kernel
theorem dX6_stepsBetween_18 : decode cX6_stepsBetween 18 = .ok (.iand, 1) := by decide +kernel
theorem dX6_stepsBetween_19 : decode cX6_stepsBetween 19 = .ok (.iconst 1, 1) := by decide +kernel
theorem dX6_stepsBetween_20 : decode cX6_stepsBetween 20 = .ok (.if_icmp .ne 6, 3) := by decide +kernel
theorem dX6_stepsBetween_23 : decode cX6_stepsBetween 23 = .ok (.iload 4, 2) := by decide +kernel
theorem dX6_stepsBetween_25 : decode cX6_stepsBetween 25 = .ok (.ireturn, 1) := by decide +kernel
theorem dX6_stepsBetween_26 : decode cX6_stepsBetween 26 = .ok (.iload_n 3, 1) := by decide +kernel
theorem dX6_stepsBetween_27 : decode cX6_stepsBetween 27 = .ok (.aload_n 0, 1) := by decide +kernel
theorem dX6_stepsBetween_28 : decode cX6_stepsBetween 28 = .ok (.iload_n 3, 1) := by decide +kernel
theorem dX6_stepsBetween_29 : decode cX6_stepsBetween 29 = .ok (.invokevirtual 53, 3) := by decide +kernel
theorem dX6_stepsBetween_32 : decode cX6_stepsBetween 32 = .ok (.ior, 1) := by decide +kernel
theorem dX6_stepsBetween_33 : decode cX6_stepsBetween 33 = .ok (.istore_n 3, 1) := by decide +kernel
theorem dX6_stepsBetween_34 : decode cX6_stepsBetween 34 = .ok (.iinc 4 1, 3) := by decide +kernel
theorem dX6_stepsBetween_37 : decode cX6_stepsBetween 37 = .ok (.goto (-30), 3) := by decide +kernel
theorem dX6_stepsBetween_40 : decode cX6_stepsBetween 40 = .ok (.iconst (-1), 1) := by decide +kernel
theorem dX6_stepsBetween_41 : decode cX6_stepsBetween 41 = .ok (.ireturn, 1) := by decide +kernel
theorem dX6_neighboursOf_0 : decode cX6_neighboursOf 0 = .ok (.iconst 0, 1) := by decide +kernel
theorem dX6_neighboursOf_1 : decode cX6_neighboursOf 1 = .ok (.istore_n 2, 1) := by decide +kernel
theorem dX6_neighboursOf_2 : decode cX6_neighboursOf 2 = .ok (.iconst 0, 1) := by decide +kernel
theorem dX6_neighboursOf_3 : decode cX6_neighboursOf 3 = .ok (.istore_n 3, 1) := by decide +kernel
theorem dX6_neighboursOf_4 : decode cX6_neighboursOf 4 = .ok (.iload_n 3, 1) := by decide +kernel
theorem dX6_neighboursOf_5 : decode cX6_neighboursOf 5 = .ok (.aload_n 0, 1) := by decide +kernel
theorem dX6_neighboursOf_6 : decode cX6_neighboursOf 6 = .ok (.getfield 21, 3) := by decide +kernel
theorem dX6_neighboursOf_9 : decode cX6_neighboursOf 9 = .ok (.getfield 46, 3) := by decide +kernel
theorem dX6_neighboursOf_12 : decode cX6_neighboursOf 12 = .ok (.if_icmp .ge 78, 3) := by decide +kernel
theorem dX6_neighboursOf_15 : decode cX6_neighboursOf 15 = .ok (.iconst 0, 1) := by decide +kernel
theorem dX6_neighboursOf_16 : decode cX6_neighboursOf 16 = .ok (.istore 4, 2) := by decide +kernel
theorem dX6_neighboursOf_18 : decode cX6_neighboursOf 18 = .ok (.iload 4, 2) := by decide +kernel
theorem dX6_neighboursOf_20 : decode cX6_neighboursOf 20 = .ok (.aload_n 0, 1) := by decide +kernel
theorem dX6_neighboursOf_21 : decode cX6_neighboursOf 21 = .ok (.getfield 21, 3) := by decide +kernel
theorem dX6_neighboursOf_24 : decode cX6_neighboursOf 24 = .ok (.getfield 46, 3) := by decide +kernel
theorem dX6_neighboursOf_27 : decode cX6_neighboursOf 27 = .ok (.if_icmp .ge 57, 3) := by decide +kernel
theorem dX6_neighboursOf_30 : decode cX6_neighboursOf 30 = .ok (.iload_n 1, 1) := by decide +kernel
theorem dX6_neighboursOf_31 : decode cX6_neighboursOf 31 = .ok (.iload_n 3, 1) := by decide +kernel
theorem dX6_neighboursOf_32 : decode cX6_neighboursOf 32 = .ok (.ishr, 1) := by decide +kernel
theorem dX6_neighboursOf_33 : decode cX6_neighboursOf 33 = .ok (.iconst 1, 1) := by decide +kernel
theorem dX6_neighboursOf_34 : decode cX6_neighboursOf 34 = .ok (.iand, 1) := by decide +kernel
theorem dX6_neighboursOf_35 : decode cX6_neighboursOf 35 = .ok (.iconst 1, 1) := by decide +kernel
theorem dX6_neighboursOf_36 : decode cX6_neighboursOf 36 = .ok (.if_icmp .ne 16, 3) := by decide +kernel
theorem dX6_neighboursOf_39 : decode cX6_neighboursOf 39 = .ok (.iload_n 1, 1) := by decide +kernel
theorem dX6_neighboursOf_40 : decode cX6_neighboursOf 40 = .ok (.iload 4, 2) := by decide +kernel
theorem dX6_neighboursOf_42 : decode cX6_neighboursOf 42 = .ok (.ishr, 1) := by decide +kernel
theorem dX6_neighboursOf_43 : decode cX6_neighboursOf 43 = .ok (.iconst 1, 1) := by decide +kernel
theorem dX6_neighboursOf_44 : decode cX6_neighboursOf 44 = .ok (.iand, 1) := by decide +kernel
theorem dX6_neighboursOf_45 : decode cX6_neighboursOf 45 = .ok (.ifCond .ne 7, 3) := by decide +kernel
theorem dX6_neighboursOf_48 : decode cX6_neighboursOf 48 = .ok (.iconst 1, 1) := by decide +kernel
theorem dX6_neighboursOf_49 : decode cX6_neighboursOf 49 = .ok (.goto 4, 3) := by decide +kernel
theorem dX6_neighboursOf_52 : decode cX6_neighboursOf 52 = .ok (.iconst 0, 1) := by decide +kernel
theorem dX6_neighboursOf_53 : decode cX6_neighboursOf 53 = .ok (.istore 5, 2) := by decide +kernel
theorem dX6_neighboursOf_55 : decode cX6_neighboursOf 55 = .ok (.iload 5, 2) := by decide +kernel
theorem dX6_neighboursOf_57 : decode cX6_neighboursOf 57 = .ok (.ifCond .eq 21, 3) := by decide +kernel
theorem dX6_neighboursOf_60 : decode cX6_neighboursOf 60 = .ok (.aload_n 0, 1) := by decide +kernel
theorem dX6_neighboursOf_61 : decode cX6_neighboursOf 61 = .ok (.iload_n 3, 1) := by decide +kernel
theorem dX6_neighboursOf_62 : decode cX6_neighboursOf 62 = .ok (.iload 4, 2) := by decide +kernel
theorem dX6_neighboursOf_64 : decode cX6_neighboursOf 64 = .ok (.invokevirtual 50, 3) := by decide +kernel
theorem dX6_neighboursOf_67 : decode cX6_neighboursOf 67 = .ok (.iconst 1, 1) := by decide +kernel
theorem dX6_neighboursOf_68 : decode cX6_neighboursOf 68 = .ok (.if_icmp .gt 10, 3) := by decide +kernel
theorem dX6_neighboursOf_71 : decode cX6_neighboursOf 71 = .ok (.iload_n 2, 1) := by decide +kernel
theorem dX6_neighboursOf_72 : decode cX6_neighboursOf 72 = .ok (.iconst 1, 1) := by decide +kernel
theorem dX6_neighboursOf_73 : decode cX6_neighboursOf 73 = .ok (.iload 4, 2) := by decide +kernel
theorem dX6_neighboursOf_75 : decode cX6_neighboursOf 75 = .ok (.ishl, 1) := by decide +kernel
theorem dX6_neighboursOf_76 : decode cX6_neighboursOf 76 = .ok (.ior, 1) := by decide +kernel
theorem dX6_neighboursOf_77 : decode cX6_neighboursOf 77 = .ok (.istore_n 2, 1) := by decide +kernel
theorem dX6_neighboursOf_78 : decode cX6_neighboursOf 78 = .ok (.iinc 4 1, 3) := by decide +kernel
theorem dX6_neighboursOf_81 : decode cX6_neighboursOf 81 = .ok (.goto (-63), 3) := by decide +kernel
theorem dX6_neighboursOf_84 : decode cX6_neighboursOf 84 = .ok (.iinc 3 1, 3) := by decide +kernel
theorem dX6_neighboursOf_87 : decode cX6_neighboursOf 87 = .ok (.goto (-83), 3) := by decide +kernel
theorem dX6_neighboursOf_90 : decode cX6_neighboursOf 90 = .ok (.iload_n 2, 1) := by decide +kernel
theorem dX6_neighboursOf_91 : decode cX6_neighboursOf 91 = .ok (.ireturn, 1) := by decide +kernel
theorem dX6_longestEcho_0 : decode cX6_longestEcho 0 = .ok (.aload_n 0, 1) := by decide +kernel
theorem dX6_longestEcho_1 : decode cX6_longestEcho 1 = .ok (.getfield 21, 3) := by decide +kernel
theorem dX6_longestEcho_4 : decode cX6_longestEcho 4 = .ok (.getfield 57, 3) := by decide +kernel
theorem dX6_longestEcho_7 : decode cX6_longestEcho 7 = .ok (.iconst 2, 1) := by decide +kernel
theorem dX6_longestEcho_8 : decode cX6_longestEcho 8 = .ok (.idiv, 1) := by decide +kernel
theorem dX6_longestEcho_9 : decode cX6_longestEcho 9 = .ok (.istore_n 1, 1) := by decide +kernel
theorem dX6_longestEcho_10 : decode cX6_longestEcho 10 = .ok (.iload_n 1, 1) := by decide +kernel
theorem dX6_longestEcho_11 : decode cX6_longestEcho 11 = .ok (.ifCond .le 67, 3) := by decide +kernel
theorem dX6_longestEcho_14 : decode cX6_longestEcho 14 = .ok (.iconst 0, 1) := by decide +kernel
theorem dX6_longestEcho_15 : decode cX6_longestEcho 15 = .ok (.istore_n 2, 1) := by decide +kernel
theorem dX6_longestEcho_16 : decode cX6_longestEcho 16 = .ok (.iload_n 2, 1) := by decide +kernel
theorem dX6_longestEcho_17 : decode cX6_longestEcho 17 = .ok (.iconst 2, 1) := by decide +kernel
theorem dX6_longestEcho_18 : decode cX6_longestEcho 18 = .ok (.iload_n 1, 1) := by decide +kernel
theorem dX6_longestEcho_19 : decode cX6_longestEcho 19 = .ok (.imul, 1) := by decide +kernel
theorem dX6_longestEcho_20 : decode cX6_longestEcho 20 = .ok (.iadd, 1) := by decide +kernel
theorem dX6_longestEcho_21 : decode cX6_longestEcho 21 = .ok (.aload_n 0, 1) := by decide +kernel
theorem dX6_longestEcho_22 : decode cX6_longestEcho 22 = .ok (.getfield 21, 3) := by decide +kernel
theorem dX6_longestEcho_25 : decode cX6_longestEcho 25 = .ok (.getfield 57, 3) := by decide +kernel
theorem dX6_longestEcho_28 : decode cX6_longestEcho 28 = .ok (.if_icmp .gt 44, 3) := by decide +kernel
theorem dX6_longestEcho_31 : decode cX6_longestEcho 31 = .ok (.iload_n 2, 1) := by decide +kernel
theorem dX6_longestEcho_32 : decode cX6_longestEcho 32 = .ok (.iload_n 1, 1) := by decide +kernel
theorem dX6_longestEcho_33 : decode cX6_longestEcho 33 = .ok (.iadd, 1) := by decide +kernel
theorem dX6_longestEcho_34 : decode cX6_longestEcho 34 = .ok (.istore_n 3, 1) := by decide +kernel
theorem dX6_longestEcho_35 : decode cX6_longestEcho 35 = .ok (.iload_n 3, 1) := by decide +kernel
theorem dX6_longestEcho_36 : decode cX6_longestEcho 36 = .ok (.iload_n 1, 1) := by decide +kernel
theorem dX6_longestEcho_37 : decode cX6_longestEcho 37 = .ok (.iadd, 1) := by decide +kernel
theorem dX6_longestEcho_38 : decode cX6_longestEcho 38 = .ok (.aload_n 0, 1) := by decide +kernel
theorem dX6_longestEcho_39 : decode cX6_longestEcho 39 = .ok (.getfield 21, 3) := by decide +kernel
theorem dX6_longestEcho_42 : decode cX6_longestEcho 42 = .ok (.getfield 57, 3) := by decide +kernel
theorem dX6_longestEcho_45 : decode cX6_longestEcho 45 = .ok (.if_icmp .gt 21, 3) := by decide +kernel
theorem dX6_longestEcho_48 : decode cX6_longestEcho 48 = .ok (.aload_n 0, 1) := by decide +kernel
theorem dX6_longestEcho_49 : decode cX6_longestEcho 49 = .ok (.iload_n 2, 1) := by decide +kernel
theorem dX6_longestEcho_50 : decode cX6_longestEcho 50 = .ok (.iload_n 3, 1) := by decide +kernel
theorem dX6_longestEcho_51 : decode cX6_longestEcho 51 = .ok (.iload_n 1, 1) := by decide +kernel
theorem dX6_longestEcho_52 : decode cX6_longestEcho 52 = .ok (.invokevirtual 60, 3) := by decide +kernel
theorem dX6_longestEcho_55 : decode cX6_longestEcho 55 = .ok (.ifCond .eq 5, 3) := by decide +kernel
theorem dX6_longestEcho_58 : decode cX6_longestEcho 58 = .ok (.iload_n 1, 1) := by decide +kernel
theorem dX6_longestEcho_59 : decode cX6_longestEcho 59 = .ok (.ireturn, 1) := by decide +kernel
theorem dX6_longestEcho_60 : decode cX6_longestEcho 60 = .ok (.iinc 3 1, 3) := by decide +kernel
theorem dX6_longestEcho_63 : decode cX6_longestEcho 63 = .ok (.goto (-28), 3) := by decide +kernel
theorem dX6_longestEcho_66 : decode cX6_longestEcho 66 = .ok (.iinc 2 1, 3) := by decide +kernel
theorem dX6_longestEcho_69 : decode cX6_longestEcho 69 = .ok (.goto (-53), 3) := by decide +kernel
theorem dX6_longestEcho_72 : decode cX6_longestEcho 72 = .ok (.iinc 1 (-1), 3) := by decide +kernel
theorem dX6_longestEcho_75 : decode cX6_longestEcho 75 = .ok (.goto (-65), 3) := by decide +kernel
theorem dX6_longestEcho_78 : decode cX6_longestEcho 78 = .ok (.iconst 0, 1) := by decide +kernel
theorem dX6_longestEcho_79 : decode cX6_longestEcho 79 = .ok (.ireturn, 1) := by decide +kernel
theorem dX6_isEcho_0 : decode cX6_isEcho 0 = .ok (.iconst 0, 1) := by decide +kernel
theorem dX6_isEcho_1 : decode cX6_isEcho 1 = .ok (.istore 4, 2) := by decide +kernel
theorem dX6_isEcho_3 : decode cX6_isEcho 3 = .ok (.iload 4, 2) := by decide +kernel
theorem dX6_isEcho_5 : decode cX6_isEcho 5 = .ok (.iload_n 3, 1) := by decide +kernel
theorem dX6_isEcho_6 : decode cX6_isEcho 6 = .ok (.if_icmp .ge 38, 3) := by decide +kernel
theorem dX6_isEcho_9 : decode cX6_isEcho 9 = .ok (.aload_n 0, 1) := by decide +kernel
theorem dX6_isEcho_10 : decode cX6_isEcho 10 = .ok (.getfield 21, 3) := by decide +kernel
theorem dX6_isEcho_13 : decode cX6_isEcho 13 = .ok (.getfield 64, 3) := by decide +kernel
theorem dX6_isEcho_16 : decode cX6_isEcho 16 = .ok (.iload_n 1, 1) := by decide +kernel
theorem dX6_isEcho_17 : decode cX6_isEcho 17 = .ok (.iload 4, 2) := by decide +kernel
theorem dX6_isEcho_19 : decode cX6_isEcho 19 = .ok (.iadd, 1) := by decide +kernel
theorem dX6_isEcho_20 : decode cX6_isEcho 20 = .ok (.iaload, 1) := by decide +kernel
theorem dX6_isEcho_21 : decode cX6_isEcho 21 = .ok (.aload_n 0, 1) := by decide +kernel
theorem dX6_isEcho_22 : decode cX6_isEcho 22 = .ok (.getfield 21, 3) := by decide +kernel
theorem dX6_isEcho_25 : decode cX6_isEcho 25 = .ok (.getfield 64, 3) := by decide +kernel
theorem dX6_isEcho_28 : decode cX6_isEcho 28 = .ok (.iload_n 2, 1) := by decide +kernel
theorem dX6_isEcho_29 : decode cX6_isEcho 29 = .ok (.iload 4, 2) := by decide +kernel
theorem dX6_isEcho_31 : decode cX6_isEcho 31 = .ok (.iadd, 1) := by decide +kernel
theorem dX6_isEcho_32 : decode cX6_isEcho 32 = .ok (.iaload, 1) := by decide +kernel
theorem dX6_isEcho_33 : decode cX6_isEcho 33 = .ok (.if_icmp .eq 5, 3) := by decide +kernel
theorem dX6_isEcho_36 : decode cX6_isEcho 36 = .ok (.iconst 0, 1) := by decide +kernel
theorem dX6_isEcho_37 : decode cX6_isEcho 37 = .ok (.ireturn, 1) := by decide +kernel
theorem dX6_isEcho_38 : decode cX6_isEcho 38 = .ok (.iinc 4 1, 3) := by decide +kernel
theorem dX6_isEcho_41 : decode cX6_isEcho 41 = .ok (.goto (-38), 3) := by decide +kernel
theorem dX6_isEcho_44 : decode cX6_isEcho 44 = .ok (.iconst 1, 1) := by decide +kernel
theorem dX6_isEcho_45 : decode cX6_isEcho 45 = .ok (.ireturn, 1) := by decide +kernel
theorem dX6_codesTogether_0 : decode cX6_codesTogether 0 = .ok (.aload_n 0, 1) := by decide +kernel
theorem dX6_codesTogether_1 : decode cX6_codesTogether 1 = .ok (.getfield 21, 3) := by decide +kernel
theorem dX6_codesTogether_4 : decode cX6_codesTogether 4 = .ok (.getfield 46, 3) := by decide +kernel
theorem dX6_codesTogether_7 : decode cX6_codesTogether 7 = .ok (.iconst 2, 1) := by decide +kernel
theorem dX6_codesTogether_8 : decode cX6_codesTogether 8 = .ok (.if_icmp .ge 5, 3) := by decide +kernel
theorem dX6_codesTogether_11 : decode cX6_codesTogether 11 = .ok (.iconst 0, 1) := by decide +kernel
theorem dX6_codesTogether_12 : decode cX6_codesTogether 12 = .ok (.ireturn, 1) := by decide +kernel
theorem dX6_codesTogether_13 : decode cX6_codesTogether 13 = .ok (.aload_n 0, 1) := by decide +kernel
theorem dX6_codesTogether_14 : decode cX6_codesTogether 14 = .ok (.invokevirtual 67, 3) := by decide +kernel
theorem dX6_codesTogether_17 : decode cX6_codesTogether 17 = .ok (.aload_n 0, 1) := by decide +kernel
theorem dX6_codesTogether_18 : decode cX6_codesTogether 18 = .ok (.getfield 18, 3) := by decide +kernel
theorem dX6_codesTogether_21 : decode cX6_codesTogether 21 = .ok (.sipush 128, 3) := by decide +kernel
theorem dX6_codesTogether_24 : decode cX6_codesTogether 24 = .ok (.iaload, 1) := by decide +kernel
theorem dX6_codesTogether_25 : decode cX6_codesTogether 25 = .ok (.ireturn, 1) := by decide +kernel
theorem dX6_codeLength_0 : decode cX6_codeLength 0 = .ok (.aload_n 0, 1) := by decide +kernel
theorem dX6_codeLength_1 : decode cX6_codeLength 1 = .ok (.getfield 21, 3) := by decide +kernel
theorem dX6_codeLength_4 : decode cX6_codeLength 4 = .ok (.getfield 46, 3) := by decide +kernel
theorem dX6_codeLength_7 : decode cX6_codeLength 7 = .ok (.iconst 2, 1) := by decide +kernel
theorem dX6_codeLength_8 : decode cX6_codeLength 8 = .ok (.if_icmp .ge 5, 3) := by decide +kernel
theorem dX6_codeLength_11 : decode cX6_codeLength 11 = .ok (.iconst 0, 1) := by decide +kernel
theorem dX6_codeLength_12 : decode cX6_codeLength 12 = .ok (.ireturn, 1) := by decide +kernel
theorem dX6_codeLength_13 : decode cX6_codeLength 13 = .ok (.aload_n 0, 1) := by decide +kernel
theorem dX6_codeLength_14 : decode cX6_codeLength 14 = .ok (.invokevirtual 67, 3) := by decide +kernel
theorem dX6_codeLength_17 : decode cX6_codeLength 17 = .ok (.sipush 128, 3) := by decide +kernel
theorem dX6_codeLength_20 : decode cX6_codeLength 20 = .ok (.istore_n 2, 1) := by decide +kernel
theorem dX6_codeLength_21 : decode cX6_codeLength 21 = .ok (.iconst 0, 1) := by decide +kernel
theorem dX6_codeLength_22 : decode cX6_codeLength 22 = .ok (.istore_n 3, 1) := by decide +kernel
theorem dX6_codeLength_23 : decode cX6_codeLength 23 = .ok (.iconst 0, 1) := by decide +kernel
theorem dX6_codeLength_24 : decode cX6_codeLength 24 = .ok (.istore 4, 2) := by decide +kernel
theorem dX6_codeLength_26 : decode cX6_codeLength 26 = .ok (.iload 4, 2) := by decide +kernel
theorem dX6_codeLength_28 : decode cX6_codeLength 28 = .ok (.iload_n 1, 1) := by decide +kernel
theorem dX6_codeLength_29 : decode cX6_codeLength 29 = .ok (.if_icmp .gt 31, 3) := by decide +kernel
theorem dX6_codeLength_32 : decode cX6_codeLength 32 = .ok (.aload_n 0, 1) := by decide +kernel
theorem dX6_codeLength_33 : decode cX6_codeLength 33 = .ok (.iload 4, 2) := by decide +kernel
theorem dX6_codeLength_35 : decode cX6_codeLength 35 = .ok (.iload_n 2, 1) := by decide +kernel
theorem dX6_codeLength_36 : decode cX6_codeLength 36 = .ok (.invokevirtual 70, 3) := by decide +kernel
theorem dX6_codeLength_39 : decode cX6_codeLength 39 = .ok (.istore_n 3, 1) := by decide +kernel
theorem dX6_codeLength_40 : decode cX6_codeLength 40 = .ok (.iload_n 2, 1) := by decide +kernel
theorem dX6_codeLength_41 : decode cX6_codeLength 41 = .ok (.sipush 128, 3) := by decide +kernel
theorem dX6_codeLength_44 : decode cX6_codeLength 44 = .ok (.iload_n 3, 1) := by decide +kernel
theorem dX6_codeLength_45 : decode cX6_codeLength 45 = .ok (.ishr, 1) := by decide +kernel
theorem dX6_codeLength_46 : decode cX6_codeLength 46 = .ok (.isub, 1) := by decide +kernel
theorem dX6_codeLength_47 : decode cX6_codeLength 47 = .ok (.istore_n 2, 1) := by decide +kernel
theorem dX6_codeLength_48 : decode cX6_codeLength 48 = .ok (.iload_n 2, 1) := by decide +kernel
theorem dX6_codeLength_49 : decode cX6_codeLength 49 = .ok (.ifCond .ge 5, 3) := by decide +kernel
theorem dX6_codeLength_52 : decode cX6_codeLength 52 = .ok (.iconst (-1), 1) := by decide +kernel
theorem dX6_codeLength_53 : decode cX6_codeLength 53 = .ok (.ireturn, 1) := by decide +kernel
theorem dX6_codeLength_54 : decode cX6_codeLength 54 = .ok (.iinc 4 1, 3) := by decide +kernel
theorem dX6_codeLength_57 : decode cX6_codeLength 57 = .ok (.goto (-31), 3) := by decide +kernel
theorem dX6_codeLength_60 : decode cX6_codeLength 60 = .ok (.iload_n 3, 1) := by decide +kernel
theorem dX6_codeLength_61 : decode cX6_codeLength 61 = .ok (.ireturn, 1) := by decide +kernel
theorem dX6_findCosts_0 : decode cX6_findCosts 0 = .ok (.iconst 0, 1) := by decide +kernel
theorem dX6_findCosts_1 : decode cX6_findCosts 1 = .ok (.istore_n 1, 1) := by decide +kernel
theorem dX6_findCosts_2 : decode cX6_findCosts 2 = .ok (.iload_n 1, 1) := by decide +kernel
theorem dX6_findCosts_3 : decode cX6_findCosts 3 = .ok (.sipush 128, 3) := by decide +kernel
theorem dX6_findCosts_6 : decode cX6_findCosts 6 = .ok (.if_icmp .gt 28, 3) := by decide +kernel
theorem dX6_findCosts_9 : decode cX6_findCosts 9 = .ok (.aload_n 0, 1) := by decide +kernel
theorem dX6_findCosts_10 : decode cX6_findCosts 10 = .ok (.getfield 18, 3) := by decide +kernel
theorem dX6_findCosts_13 : decode cX6_findCosts 13 = .ok (.aload_n 0, 1) := by decide +kernel
theorem dX6_findCosts_14 : decode cX6_findCosts 14 = .ok (.getfield 21, 3) := by decide +kernel
theorem dX6_findCosts_17 : decode cX6_findCosts 17 = .ok (.getfield 46, 3) := by decide +kernel
theorem dX6_findCosts_20 : decode cX6_findCosts 20 = .ok (.sipush 129, 3) := by decide +kernel
theorem dX6_findCosts_23 : decode cX6_findCosts 23 = .ok (.imul, 1) := by decide +kernel
theorem dX6_findCosts_24 : decode cX6_findCosts 24 = .ok (.iload_n 1, 1) := by decide +kernel
theorem dX6_findCosts_25 : decode cX6_findCosts 25 = .ok (.iadd, 1) := by decide +kernel
theorem dX6_findCosts_26 : decode cX6_findCosts 26 = .ok (.iconst 0, 1) := by decide +kernel
theorem dX6_findCosts_27 : decode cX6_findCosts 27 = .ok (.iastore, 1) := by decide +kernel
theorem dX6_findCosts_28 : decode cX6_findCosts 28 = .ok (.iinc 1 1, 3) := by decide +kernel
theorem dX6_findCosts_31 : decode cX6_findCosts 31 = .ok (.goto (-29), 3) := by decide +kernel
theorem dX6_findCosts_34 : decode cX6_findCosts 34 = .ok (.aload_n 0, 1) := by decide +kernel
theorem dX6_findCosts_35 : decode cX6_findCosts 35 = .ok (.getfield 21, 3) := by decide +kernel
theorem dX6_findCosts_38 : decode cX6_findCosts 38 = .ok (.getfield 46, 3) := by decide +kernel
theorem dX6_findCosts_41 : decode cX6_findCosts 41 = .ok (.iconst 1, 1) := by decide +kernel
theorem dX6_findCosts_42 : decode cX6_findCosts 42 = .ok (.isub, 1) := by decide +kernel
theorem dX6_findCosts_43 : decode cX6_findCosts 43 = .ok (.istore_n 1, 1) := by decide +kernel
theorem dX6_findCosts_44 : decode cX6_findCosts 44 = .ok (.iload_n 1, 1) := by decide +kernel
theorem dX6_findCosts_45 : decode cX6_findCosts 45 = .ok (.ifCond .lt 69, 3) := by decide +kernel
theorem dX6_findCosts_48 : decode cX6_findCosts 48 = .ok (.iconst 0, 1) := by decide +kernel
theorem dX6_findCosts_49 : decode cX6_findCosts 49 = .ok (.istore_n 2, 1) := by decide +kernel
theorem dX6_findCosts_50 : decode cX6_findCosts 50 = .ok (.iload_n 2, 1) := by decide +kernel
theorem dX6_findCosts_51 : decode cX6_findCosts 51 = .ok (.sipush 128, 3) := by decide +kernel
theorem dX6_findCosts_54 : decode cX6_findCosts 54 = .ok (.if_icmp .gt 54, 3) := by decide +kernel
theorem dX6_findCosts_57 : decode cX6_findCosts 57 = .ok (.ldc 45, 2) := by decide +kernel
theorem dX6_findCosts_59 : decode cX6_findCosts 59 = .ok (.istore_n 3, 1) := by decide +kernel
theorem dX6_findCosts_60 : decode cX6_findCosts 60 = .ok (.iconst 1, 1) := by decide +kernel
theorem dX6_findCosts_61 : decode cX6_findCosts 61 = .ok (.istore 4, 2) := by decide +kernel
theorem dX6_findCosts_63 : decode cX6_findCosts 63 = .ok (.iload 4, 2) := by decide +kernel
theorem dX6_findCosts_65 : decode cX6_findCosts 65 = .ok (.bipush 7, 2) := by decide +kernel
theorem dX6_findCosts_67 : decode cX6_findCosts 67 = .ok (.if_icmp .gt 22, 3) := by decide +kernel
theorem dX6_findCosts_70 : decode cX6_findCosts 70 = .ok (.iload_n 3, 1) := by decide +kernel
theorem dX6_findCosts_71 : decode cX6_findCosts 71 = .ok (.aload_n 0, 1) := by decide +kernel
theorem dX6_findCosts_72 : decode cX6_findCosts 72 = .ok (.iload_n 1, 1) := by decide +kernel
theorem dX6_findCosts_73 : decode cX6_findCosts 73 = .ok (.iload_n 2, 1) := by decide +kernel
theorem dX6_findCosts_74 : decode cX6_findCosts 74 = .ok (.iload 4, 2) := by decide +kernel
theorem dX6_findCosts_76 : decode cX6_findCosts 76 = .ok (.invokevirtual 73, 3) := by decide +kernel
theorem dX6_findCosts_79 : decode cX6_findCosts 79 = .ok (.invokestatic 34, 3) := by decide +kernel
theorem dX6_findCosts_82 : decode cX6_findCosts 82 = .ok (.istore_n 3, 1) := by decide +kernel
theorem dX6_findCosts_83 : decode cX6_findCosts 83 = .ok (.iinc 4 1, 3) := by decide +kernel
theorem dX6_findCosts_86 : decode cX6_findCosts 86 = .ok (.goto (-23), 3) := by decide +kernel
theorem dX6_findCosts_89 : decode cX6_findCosts 89 = .ok (.aload_n 0, 1) := by decide +kernel
theorem dX6_findCosts_90 : decode cX6_findCosts 90 = .ok (.getfield 18, 3) := by decide +kernel
theorem dX6_findCosts_93 : decode cX6_findCosts 93 = .ok (.iload_n 1, 1) := by decide +kernel
theorem dX6_findCosts_94 : decode cX6_findCosts 94 = .ok (.sipush 129, 3) := by decide +kernel
theorem dX6_findCosts_97 : decode cX6_findCosts 97 = .ok (.imul, 1) := by decide +kernel
theorem dX6_findCosts_98 : decode cX6_findCosts 98 = .ok (.iload_n 2, 1) := by decide +kernel
theorem dX6_findCosts_99 : decode cX6_findCosts 99 = .ok (.iadd, 1) := by decide +kernel
theorem dX6_findCosts_100 : decode cX6_findCosts 100 = .ok (.iload_n 3, 1) := by decide +kernel
theorem dX6_findCosts_101 : decode cX6_findCosts 101 = .ok (.iastore, 1) := by decide +kernel
theorem dX6_findCosts_102 : decode cX6_findCosts 102 = .ok (.iinc 2 1, 3) := by decide +kernel
theorem dX6_findCosts_105 : decode cX6_findCosts 105 = .ok (.goto (-55), 3) := by decide +kernel
theorem dX6_findCosts_108 : decode cX6_findCosts 108 = .ok (.iinc 1 (-1), 3) := by decide +kernel
theorem dX6_findCosts_111 : decode cX6_findCosts 111 = .ok (.goto (-67), 3) := by decide +kernel
theorem dX6_findCosts_114 : decode cX6_findCosts 114 = .ok (.return_, 1) := by decide +kernel
theorem dX6_costAt_0 : decode cX6_costAt 0 = .ok (.iload_n 2, 1) := by decide +kernel
theorem dX6_costAt_1 : decode cX6_costAt 1 = .ok (.sipush 128, 3) := by decide +kernel
theorem dX6_costAt_4 : decode cX6_costAt 4 = .ok (.iload_n 3, 1) := by decide +kernel
theorem dX6_costAt_5 : decode cX6_costAt 5 = .ok (.ishr, 1) := by decide +kernel
theorem dX6_costAt_6 : decode cX6_costAt 6 = .ok (.isub, 1) := by decide +kernel
theorem dX6_costAt_7 : decode cX6_costAt 7 = .ok (.istore 4, 2) := by decide +kernel
theorem dX6_costAt_9 : decode cX6_costAt 9 = .ok (.iload 4, 2) := by decide +kernel
theorem dX6_costAt_11 : decode cX6_costAt 11 = .ok (.ifCond .ge 8, 3) := by decide +kernel
theorem dX6_costAt_14 : decode cX6_costAt 14 = .ok (.ldc 45, 2) := by decide +kernel
theorem dX6_costAt_16 : decode cX6_costAt 16 = .ok (.goto 30, 3) := by decide +kernel
theorem dX6_costAt_19 : decode cX6_costAt 19 = .ok (.aload_n 0, 1) := by decide +kernel
theorem dX6_costAt_20 : decode cX6_costAt 20 = .ok (.getfield 21, 3) := by decide +kernel
theorem dX6_costAt_23 : decode cX6_costAt 23 = .ok (.getfield 77, 3) := by decide +kernel
theorem dX6_costAt_26 : decode cX6_costAt 26 = .ok (.iload_n 1, 1) := by decide +kernel
theorem dX6_costAt_27 : decode cX6_costAt 27 = .ok (.iaload, 1) := by decide +kernel
theorem dX6_costAt_28 : decode cX6_costAt 28 = .ok (.iload_n 3, 1) := by decide +kernel
theorem dX6_costAt_29 : decode cX6_costAt 29 = .ok (.imul, 1) := by decide +kernel
theorem dX6_costAt_30 : decode cX6_costAt 30 = .ok (.aload_n 0, 1) := by decide +kernel
theorem dX6_costAt_31 : decode cX6_costAt 31 = .ok (.getfield 18, 3) := by decide +kernel
theorem dX6_costAt_34 : decode cX6_costAt 34 = .ok (.iload_n 1, 1) := by decide +kernel
theorem dX6_costAt_35 : decode cX6_costAt 35 = .ok (.iconst 1, 1) := by decide +kernel
theorem dX6_costAt_36 : decode cX6_costAt 36 = .ok (.iadd, 1) := by decide +kernel
theorem dX6_costAt_37 : decode cX6_costAt 37 = .ok (.sipush 129, 3) := by decide +kernel
theorem dX6_costAt_40 : decode cX6_costAt 40 = .ok (.imul, 1) := by decide +kernel
theorem dX6_costAt_41 : decode cX6_costAt 41 = .ok (.iload 4, 2) := by decide +kernel
theorem dX6_costAt_43 : decode cX6_costAt 43 = .ok (.iadd, 1) := by decide +kernel
theorem dX6_costAt_44 : decode cX6_costAt 44 = .ok (.iaload, 1) := by decide +kernel
theorem dX6_costAt_45 : decode cX6_costAt 45 = .ok (.iadd, 1) := by decide +kernel
theorem dX6_costAt_46 : decode cX6_costAt 46 = .ok (.ireturn, 1) := by decide +kernel
theorem dX6_shortestAt_0 : decode cX6_shortestAt 0 = .ok (.iconst 1, 1) := by decide +kernel
theorem dX6_shortestAt_1 : decode cX6_shortestAt 1 = .ok (.istore_n 3, 1) := by decide +kernel
theorem dX6_shortestAt_2 : decode cX6_shortestAt 2 = .ok (.iload_n 3, 1) := by decide +kernel
theorem dX6_shortestAt_3 : decode cX6_shortestAt 3 = .ok (.bipush 7, 2) := by decide +kernel
theorem dX6_shortestAt_5 : decode cX6_shortestAt 5 = .ok (.if_icmp .ge 33, 3) := by decide +kernel
theorem dX6_shortestAt_8 : decode cX6_shortestAt 8 = .ok (.aload_n 0, 1) := by decide +kernel
theorem dX6_shortestAt_9 : decode cX6_shortestAt 9 = .ok (.iload_n 1, 1) := by decide +kernel
theorem dX6_shortestAt_10 : decode cX6_shortestAt 10 = .ok (.iload_n 2, 1) := by decide +kernel
theorem dX6_shortestAt_11 : decode cX6_shortestAt 11 = .ok (.iload_n 3, 1) := by decide +kernel
theorem dX6_shortestAt_12 : decode cX6_shortestAt 12 = .ok (.invokevirtual 73, 3) := by decide +kernel
theorem dX6_shortestAt_15 : decode cX6_shortestAt 15 = .ok (.aload_n 0, 1) := by decide +kernel
theorem dX6_shortestAt_16 : decode cX6_shortestAt 16 = .ok (.getfield 18, 3) := by decide +kernel
theorem dX6_shortestAt_19 : decode cX6_shortestAt 19 = .ok (.iload_n 1, 1) := by decide +kernel
theorem dX6_shortestAt_20 : decode cX6_shortestAt 20 = .ok (.sipush 129, 3) := by decide +kernel
theorem dX6_shortestAt_23 : decode cX6_shortestAt 23 = .ok (.imul, 1) := by decide +kernel
theorem dX6_shortestAt_24 : decode cX6_shortestAt 24 = .ok (.iload_n 2, 1) := by decide +kernel
theorem dX6_shortestAt_25 : decode cX6_shortestAt 25 = .ok (.iadd, 1) := by decide +kernel
theorem dX6_shortestAt_26 : decode cX6_shortestAt 26 = .ok (.iaload, 1) := by decide +kernel
theorem dX6_shortestAt_27 : decode cX6_shortestAt 27 = .ok (.if_icmp .ne 5, 3) := by decide +kernel
theorem dX6_shortestAt_30 : decode cX6_shortestAt 30 = .ok (.iload_n 3, 1) := by decide +kernel
theorem dX6_shortestAt_31 : decode cX6_shortestAt 31 = .ok (.ireturn, 1) := by decide +kernel
theorem dX6_shortestAt_32 : decode cX6_shortestAt 32 = .ok (.iinc 3 1, 3) := by decide +kernel
theorem dX6_shortestAt_35 : decode cX6_shortestAt 35 = .ok (.goto (-33), 3) := by decide +kernel
theorem dX6_shortestAt_38 : decode cX6_shortestAt 38 = .ok (.bipush 7, 2) := by decide +kernel
theorem dX6_shortestAt_40 : decode cX6_shortestAt 40 = .ok (.ireturn, 1) := by decide +kernel
theorem dX6_countTwins_0 : decode cX6_countTwins 0 = .ok (.iconst 0, 1) := by decide +kernel
theorem dX6_countTwins_1 : decode cX6_countTwins 1 = .ok (.istore_n 1, 1) := by decide +kernel
theorem dX6_countTwins_2 : decode cX6_countTwins 2 = .ok (.iconst 0, 1) := by decide +kernel
theorem dX6_countTwins_3 : decode cX6_countTwins 3 = .ok (.istore_n 2, 1) := by decide +kernel
theorem dX6_countTwins_4 : decode cX6_countTwins 4 = .ok (.iload_n 2, 1) := by decide +kernel
theorem dX6_countTwins_5 : decode cX6_countTwins 5 = .ok (.aload_n 0, 1) := by decide +kernel
theorem dX6_countTwins_6 : decode cX6_countTwins 6 = .ok (.getfield 21, 3) := by decide +kernel
theorem dX6_countTwins_9 : decode cX6_countTwins 9 = .ok (.getfield 46, 3) := by decide +kernel
theorem dX6_countTwins_12 : decode cX6_countTwins 12 = .ok (.if_icmp .ge 46, 3) := by decide +kernel
theorem dX6_countTwins_15 : decode cX6_countTwins 15 = .ok (.iload_n 2, 1) := by decide +kernel
theorem dX6_countTwins_16 : decode cX6_countTwins 16 = .ok (.iconst 1, 1) := by decide +kernel
theorem dX6_countTwins_17 : decode cX6_countTwins 17 = .ok (.iadd, 1) := by decide +kernel
theorem dX6_countTwins_18 : decode cX6_countTwins 18 = .ok (.istore_n 3, 1) := by decide +kernel
theorem dX6_countTwins_19 : decode cX6_countTwins 19 = .ok (.iload_n 3, 1) := by decide +kernel
theorem dX6_countTwins_20 : decode cX6_countTwins 20 = .ok (.aload_n 0, 1) := by decide +kernel
theorem dX6_countTwins_21 : decode cX6_countTwins 21 = .ok (.getfield 21, 3) := by decide +kernel
theorem dX6_countTwins_24 : decode cX6_countTwins 24 = .ok (.getfield 46, 3) := by decide +kernel
theorem dX6_countTwins_27 : decode cX6_countTwins 27 = .ok (.if_icmp .ge 25, 3) := by decide +kernel
theorem dX6_countTwins_30 : decode cX6_countTwins 30 = .ok (.aload_n 0, 1) := by decide +kernel
theorem dX6_countTwins_31 : decode cX6_countTwins 31 = .ok (.iload_n 2, 1) := by decide +kernel
theorem dX6_countTwins_32 : decode cX6_countTwins 32 = .ok (.invokevirtual 80, 3) := by decide +kernel
theorem dX6_countTwins_35 : decode cX6_countTwins 35 = .ok (.aload_n 0, 1) := by decide +kernel
theorem dX6_countTwins_36 : decode cX6_countTwins 36 = .ok (.iload_n 3, 1) := by decide +kernel
theorem dX6_countTwins_37 : decode cX6_countTwins 37 = .ok (.invokevirtual 80, 3) := by decide +kernel
theorem dX6_countTwins_40 : decode cX6_countTwins 40 = .ok (.if_icmp .ne 6, 3) := by decide +kernel
theorem dX6_countTwins_43 : decode cX6_countTwins 43 = .ok (.iinc 1 1, 3) := by decide +kernel
theorem dX6_countTwins_46 : decode cX6_countTwins 46 = .ok (.iinc 3 1, 3) := by decide +kernel
theorem dX6_countTwins_49 : decode cX6_countTwins 49 = .ok (.goto (-30), 3) := by decide +kernel
theorem dX6_countTwins_52 : decode cX6_countTwins 52 = .ok (.iinc 2 1, 3) := by decide +kernel
theorem dX6_countTwins_55 : decode cX6_countTwins 55 = .ok (.goto (-51), 3) := by decide +kernel
theorem dX6_countTwins_58 : decode cX6_countTwins 58 = .ok (.iload_n 1, 1) := by decide +kernel
theorem dX6_countTwins_59 : decode cX6_countTwins 59 = .ok (.ireturn, 1) := by decide +kernel
theorem dX6_lettersOf_0 : decode cX6_lettersOf 0 = .ok (.iconst 0, 1) := by decide +kernel
theorem dX6_lettersOf_1 : decode cX6_lettersOf 1 = .ok (.istore_n 2, 1) := by decide +kernel
theorem dX6_lettersOf_2 : decode cX6_lettersOf 2 = .ok (.iconst 0, 1) := by decide +kernel
theorem dX6_lettersOf_3 : decode cX6_lettersOf 3 = .ok (.istore_n 3, 1) := by decide +kernel
theorem dX6_lettersOf_4 : decode cX6_lettersOf 4 = .ok (.iload_n 3, 1) := by decide +kernel
theorem dX6_lettersOf_5 : decode cX6_lettersOf 5 = .ok (.aload_n 0, 1) := by decide +kernel
theorem dX6_lettersOf_6 : decode cX6_lettersOf 6 = .ok (.getfield 21, 3) := by decide +kernel
theorem dX6_lettersOf_9 : decode cX6_lettersOf 9 = .ok (.getfield 25, 3) := by decide +kernel
theorem dX6_lettersOf_12 : decode cX6_lettersOf 12 = .ok (.iload_n 1, 1) := by decide +kernel
theorem dX6_lettersOf_13 : decode cX6_lettersOf 13 = .ok (.iaload, 1) := by decide +kernel
theorem dX6_lettersOf_14 : decode cX6_lettersOf 14 = .ok (.if_icmp .ge 30, 3) := by decide +kernel
theorem dX6_lettersOf_17 : decode cX6_lettersOf 17 = .ok (.iload_n 2, 1) := by decide +kernel
theorem dX6_lettersOf_18 : decode cX6_lettersOf 18 = .ok (.iconst 1, 1) := by decide +kernel
theorem dX6_lettersOf_19 : decode cX6_lettersOf 19 = .ok (.iconst 4, 1) := by decide +kernel
theorem dX6_lettersOf_20 : decode cX6_lettersOf 20 = .ok (.aload_n 0, 1) := by decide +kernel
theorem dX6_lettersOf_21 : decode cX6_lettersOf 21 = .ok (.getfield 21, 3) := by decide +kernel
theorem dX6_lettersOf_24 : decode cX6_lettersOf 24 = .ok (.getfield 83, 3) := by decide +kernel
theorem dX6_lettersOf_27 : decode cX6_lettersOf 27 = .ok (.iload_n 1, 1) := by decide +kernel
theorem dX6_lettersOf_28 : decode cX6_lettersOf 28 = .ok (.bipush 6, 2) := by decide +kernel
theorem dX6_lettersOf_30 : decode cX6_lettersOf 30 = .ok (.imul, 1) := by decide +kernel
theorem dX6_lettersOf_31 : decode cX6_lettersOf 31 = .ok (.iload_n 3, 1) := by decide +kernel
theorem dX6_lettersOf_32 : decode cX6_lettersOf 32 = .ok (.iadd, 1) := by decide +kernel
theorem dX6_lettersOf_33 : decode cX6_lettersOf 33 = .ok (.iaload, 1) := by decide +kernel
theorem dX6_lettersOf_34 : decode cX6_lettersOf 34 = .ok (.imul, 1) := by decide +kernel
theorem dX6_lettersOf_35 : decode cX6_lettersOf 35 = .ok (.ishl, 1) := by decide +kernel
theorem dX6_lettersOf_36 : decode cX6_lettersOf 36 = .ok (.iadd, 1) := by decide +kernel
theorem dX6_lettersOf_37 : decode cX6_lettersOf 37 = .ok (.istore_n 2, 1) := by decide +kernel
theorem dX6_lettersOf_38 : decode cX6_lettersOf 38 = .ok (.iinc 3 1, 3) := by decide +kernel
theorem dX6_lettersOf_41 : decode cX6_lettersOf 41 = .ok (.goto (-37), 3) := by decide +kernel
theorem dX6_lettersOf_44 : decode cX6_lettersOf 44 = .ok (.iload_n 2, 1) := by decide +kernel
theorem dX6_lettersOf_45 : decode cX6_lettersOf 45 = .ok (.ireturn, 1) := by decide +kernel
theorem dX6_usersOf_0 : decode cX6_usersOf 0 = .ok (.iconst 0, 1) := by decide +kernel
theorem dX6_usersOf_1 : decode cX6_usersOf 1 = .ok (.istore_n 2, 1) := by decide +kernel
theorem dX6_usersOf_2 : decode cX6_usersOf 2 = .ok (.iconst 0, 1) := by decide +kernel
theorem dX6_usersOf_3 : decode cX6_usersOf 3 = .ok (.istore_n 3, 1) := by decide +kernel
theorem dX6_usersOf_4 : decode cX6_usersOf 4 = .ok (.iload_n 3, 1) := by decide +kernel
theorem dX6_usersOf_5 : decode cX6_usersOf 5 = .ok (.aload_n 0, 1) := by decide +kernel
theorem dX6_usersOf_6 : decode cX6_usersOf 6 = .ok (.getfield 21, 3) := by decide +kernel
theorem dX6_usersOf_9 : decode cX6_usersOf 9 = .ok (.getfield 46, 3) := by decide +kernel
theorem dX6_usersOf_12 : decode cX6_usersOf 12 = .ok (.if_icmp .ge 52, 3) := by decide +kernel
theorem dX6_usersOf_15 : decode cX6_usersOf 15 = .ok (.iconst 0, 1) := by decide +kernel
theorem dX6_usersOf_16 : decode cX6_usersOf 16 = .ok (.istore 4, 2) := by decide +kernel
theorem dX6_usersOf_18 : decode cX6_usersOf 18 = .ok (.iload 4, 2) := by decide +kernel
theorem dX6_usersOf_20 : decode cX6_usersOf 20 = .ok (.aload_n 0, 1) := by decide +kernel
theorem dX6_usersOf_21 : decode cX6_usersOf 21 = .ok (.getfield 21, 3) := by decide +kernel
theorem dX6_usersOf_24 : decode cX6_usersOf 24 = .ok (.getfield 25, 3) := by decide +kernel
theorem dX6_usersOf_27 : decode cX6_usersOf 27 = .ok (.iload_n 3, 1) := by decide +kernel
theorem dX6_usersOf_28 : decode cX6_usersOf 28 = .ok (.iaload, 1) := by decide +kernel
theorem dX6_usersOf_29 : decode cX6_usersOf 29 = .ok (.if_icmp .ge 29, 3) := by decide +kernel
theorem dX6_usersOf_32 : decode cX6_usersOf 32 = .ok (.aload_n 0, 1) := by decide +kernel
theorem dX6_usersOf_33 : decode cX6_usersOf 33 = .ok (.getfield 21, 3) := by decide +kernel
theorem dX6_usersOf_36 : decode cX6_usersOf 36 = .ok (.iload_n 3, 1) := by decide +kernel
theorem dX6_usersOf_37 : decode cX6_usersOf 37 = .ok (.iload 4, 2) := by decide +kernel
theorem dX6_usersOf_39 : decode cX6_usersOf 39 = .ok (.invokevirtual 30, 3) := by decide +kernel
theorem dX6_usersOf_42 : decode cX6_usersOf 42 = .ok (.iload_n 1, 1) := by decide +kernel
theorem dX6_usersOf_43 : decode cX6_usersOf 43 = .ok (.if_icmp .ne 9, 3) := by decide +kernel
theorem dX6_usersOf_46 : decode cX6_usersOf 46 = .ok (.iload_n 2, 1) := by decide +kernel
theorem dX6_usersOf_47 : decode cX6_usersOf 47 = .ok (.iconst 1, 1) := by decide +kernel
theorem dX6_usersOf_48 : decode cX6_usersOf 48 = .ok (.iload_n 3, 1) := by decide +kernel
theorem dX6_usersOf_49 : decode cX6_usersOf 49 = .ok (.ishl, 1) := by decide +kernel
theorem dX6_usersOf_50 : decode cX6_usersOf 50 = .ok (.ior, 1) := by decide +kernel
theorem dX6_usersOf_51 : decode cX6_usersOf 51 = .ok (.istore_n 2, 1) := by decide +kernel
theorem dX6_usersOf_52 : decode cX6_usersOf 52 = .ok (.iinc 4 1, 3) := by decide +kernel
theorem dX6_usersOf_55 : decode cX6_usersOf 55 = .ok (.goto (-37), 3) := by decide +kernel
theorem dX6_usersOf_58 : decode cX6_usersOf 58 = .ok (.iinc 3 1, 3) := by decide +kernel
theorem dX6_usersOf_61 : decode cX6_usersOf 61 = .ok (.goto (-57), 3) := by decide +kernel
theorem dX6_usersOf_64 : decode cX6_usersOf 64 = .ok (.iload_n 2, 1) := by decide +kernel
theorem dX6_usersOf_65 : decode cX6_usersOf 65 = .ok (.ireturn, 1) := by decide +kernel
theorem dX7_init_0 : decode cX7_init 0 = .ok (.aload_n 0, 1) := by decide +kernel
theorem dX7_init_1 : decode cX7_init 1 = .ok (.invokespecial 3, 3) := by decide +kernel
theorem dX7_init_4 : decode cX7_init 4 = .ok (.aload_n 0, 1) := by decide +kernel
theorem dX7_init_5 : decode cX7_init 5 = .ok (.sipush 240, 3) := by decide +kernel
theorem dX7_init_8 : decode cX7_init 8 = .ok (.newarray .int, 2) := by decide +kernel
theorem dX7_init_10 : decode cX7_init 10 = .ok (.putfield 11, 3) := by decide +kernel
theorem dX7_init_13 : decode cX7_init 13 = .ok (.return_, 1) := by decide +kernel
theorem dX7_copyFrom_0 : decode cX7_copyFrom 0 = .ok (.aload_n 1, 1) := by decide +kernel
theorem dX7_copyFrom_1 : decode cX7_copyFrom 1 = .ok (.getfield 11, 3) := by decide +kernel
theorem dX7_copyFrom_4 : decode cX7_copyFrom 4 = .ok (.iconst 0, 1) := by decide +kernel
theorem dX7_copyFrom_5 : decode cX7_copyFrom 5 = .ok (.aload_n 0, 1) := by decide +kernel
theorem dX7_copyFrom_6 : decode cX7_copyFrom 6 = .ok (.getfield 11, 3) := by decide +kernel
theorem dX7_copyFrom_9 : decode cX7_copyFrom 9 = .ok (.iconst 0, 1) := by decide +kernel
theorem dX7_copyFrom_10 : decode cX7_copyFrom 10 = .ok (.aload_n 0, 1) := by decide +kernel
theorem dX7_copyFrom_11 : decode cX7_copyFrom 11 = .ok (.getfield 11, 3) := by decide +kernel
theorem dX7_copyFrom_14 : decode cX7_copyFrom 14 = .ok (.arraylength, 1) := by decide +kernel
theorem dX7_copyFrom_15 : decode cX7_copyFrom 15 = .ok (.invokestatic 15, 3) := by decide +kernel
theorem dX7_copyFrom_18 : decode cX7_copyFrom 18 = .ok (.aload_n 0, 1) := by decide +kernel
theorem dX7_copyFrom_19 : decode cX7_copyFrom 19 = .ok (.aload_n 1, 1) := by decide +kernel
theorem dX7_copyFrom_20 : decode cX7_copyFrom 20 = .ok (.getfield 21, 3) := by decide +kernel
theorem dX7_copyFrom_23 : decode cX7_copyFrom 23 = .ok (.putfield 21, 3) := by decide +kernel
theorem dX7_copyFrom_26 : decode cX7_copyFrom 26 = .ok (.aload_n 0, 1) := by decide +kernel
theorem dX7_copyFrom_27 : decode cX7_copyFrom 27 = .ok (.aload_n 1, 1) := by decide +kernel
theorem dX7_copyFrom_28 : decode cX7_copyFrom 28 = .ok (.getfield 25, 3) := by decide +kernel
theorem dX7_copyFrom_31 : decode cX7_copyFrom 31 = .ok (.putfield 25, 3) := by decide +kernel
theorem dX7_copyFrom_34 : decode cX7_copyFrom 34 = .ok (.return_, 1) := by decide +kernel
theorem dX7_add_0 : decode cX7_add 0 = .ok (.aload_n 0, 1) := by decide +kernel
theorem dX7_add_1 : decode cX7_add 1 = .ok (.getfield 25, 3) := by decide +kernel
theorem dX7_add_4 : decode cX7_add 4 = .ok (.iconst 4, 1) := by decide +kernel
theorem dX7_add_5 : decode cX7_add 5 = .ok (.imul, 1) := by decide +kernel
theorem dX7_add_6 : decode cX7_add 6 = .ok (.istore 5, 2) := by decide +kernel
theorem dX7_add_8 : decode cX7_add 8 = .ok (.aload_n 0, 1) := by decide +kernel
theorem dX7_add_9 : decode cX7_add 9 = .ok (.getfield 11, 3) := by decide +kernel
theorem dX7_add_12 : decode cX7_add 12 = .ok (.iload 5, 2) := by decide +kernel
theorem dX7_add_14 : decode cX7_add 14 = .ok (.iload_n 1, 1) := by decide +kernel
theorem dX7_add_15 : decode cX7_add 15 = .ok (.iastore, 1) := by decide +kernel
theorem dX7_add_16 : decode cX7_add 16 = .ok (.aload_n 0, 1) := by decide +kernel
theorem dX7_add_17 : decode cX7_add 17 = .ok (.getfield 11, 3) := by decide +kernel
theorem dX7_add_20 : decode cX7_add 20 = .ok (.iload 5, 2) := by decide +kernel
theorem dX7_add_22 : decode cX7_add 22 = .ok (.iconst 1, 1) := by decide +kernel
theorem dX7_add_23 : decode cX7_add 23 = .ok (.iadd, 1) := by decide +kernel
theorem dX7_add_24 : decode cX7_add 24 = .ok (.iload_n 2, 1) := by decide +kernel
theorem dX7_add_25 : decode cX7_add 25 = .ok (.iastore, 1) := by decide +kernel
theorem dX7_add_26 : decode cX7_add 26 = .ok (.aload_n 0, 1) := by decide +kernel
theorem dX7_add_27 : decode cX7_add 27 = .ok (.getfield 11, 3) := by decide +kernel
theorem dX7_add_30 : decode cX7_add 30 = .ok (.iload 5, 2) := by decide +kernel
theorem dX7_add_32 : decode cX7_add 32 = .ok (.iconst 2, 1) := by decide +kernel
theorem dX7_add_33 : decode cX7_add 33 = .ok (.iadd, 1) := by decide +kernel
theorem dX7_add_34 : decode cX7_add 34 = .ok (.iload_n 3, 1) := by decide +kernel
theorem dX7_add_35 : decode cX7_add 35 = .ok (.iastore, 1) := by decide +kernel
theorem dX7_add_36 : decode cX7_add 36 = .ok (.aload_n 0, 1) := by decide +kernel
theorem dX7_add_37 : decode cX7_add 37 = .ok (.getfield 11, 3) := by decide +kernel
theorem dX7_add_40 : decode cX7_add 40 = .ok (.iload 5, 2) := by decide +kernel
theorem dX7_add_42 : decode cX7_add 42 = .ok (.iconst 3, 1) := by decide +kernel
theorem dX7_add_43 : decode cX7_add 43 = .ok (.iadd, 1) := by decide +kernel
theorem dX7_add_44 : decode cX7_add 44 = .ok (.iload 4, 2) := by decide +kernel
theorem dX7_add_46 : decode cX7_add 46 = .ok (.iastore, 1) := by decide +kernel
theorem dX7_add_47 : decode cX7_add 47 = .ok (.aload_n 0, 1) := by decide +kernel
theorem dX7_add_48 : decode cX7_add 48 = .ok (.aload_n 0, 1) := by decide +kernel
theorem dX7_add_49 : decode cX7_add 49 = .ok (.getfield 25, 3) := by decide +kernel
theorem dX7_add_52 : decode cX7_add 52 = .ok (.iconst 1, 1) := by decide +kernel
theorem dX7_add_53 : decode cX7_add 53 = .ok (.iadd, 1) := by decide +kernel
theorem dX7_add_54 : decode cX7_add 54 = .ok (.bipush 60, 2) := by decide +kernel
theorem dX7_add_56 : decode cX7_add 56 = .ok (.irem, 1) := by decide +kernel
theorem dX7_add_57 : decode cX7_add 57 = .ok (.putfield 25, 3) := by decide +kernel
theorem dX7_add_60 : decode cX7_add 60 = .ok (.aload_n 0, 1) := by decide +kernel
theorem dX7_add_61 : decode cX7_add 61 = .ok (.aload_n 0, 1) := by decide +kernel
theorem dX7_add_62 : decode cX7_add 62 = .ok (.getfield 21, 3) := by decide +kernel
theorem dX7_add_65 : decode cX7_add 65 = .ok (.iconst 1, 1) := by decide +kernel
theorem dX7_add_66 : decode cX7_add 66 = .ok (.iadd, 1) := by decide +kernel
theorem dX7_add_67 : decode cX7_add 67 = .ok (.bipush 60, 2) := by decide +kernel
theorem dX7_add_69 : decode cX7_add 69 = .ok (.invokestatic 28, 3) := by decide +kernel
theorem dX7_add_72 : decode cX7_add 72 = .ok (.putfield 21, 3) := by decide +kernel
theorem dX7_add_75 : decode cX7_add 75 = .ok (.return_, 1) := by decide +kernel
theorem dX7_tell_0 : decode cX7_tell 0 = .ok (.iload_n 1, 1) := by decide +kernel
theorem dX7_tell_1 : decode cX7_tell 1 = .ok (.ifCond .lt 11, 3) := by decide +kernel
theorem dX7_tell_4 : decode cX7_tell 4 = .ok (.iload_n 1, 1) := by decide +kernel
theorem dX7_tell_5 : decode cX7_tell 5 = .ok (.aload_n 0, 1) := by decide +kernel
theorem dX7_tell_6 : decode cX7_tell 6 = .ok (.getfield 21, 3) := by decide +kernel
theorem dX7_tell_9 : decode cX7_tell 9 = .ok (.if_icmp .lt 7, 3) := by decide +kernel
theorem dX7_tell_12 : decode cX7_tell 12 = .ok (.iconst (-1), 1) := by decide +kernel
theorem dX7_tell_13 : decode cX7_tell 13 = .ok (.goto 26, 3) := by decide +kernel
theorem dX7_tell_16 : decode cX7_tell 16 = .ok (.aload_n 0, 1) := by decide +kernel
theorem dX7_tell_17 : decode cX7_tell 17 = .ok (.getfield 11, 3) := by decide +kernel
theorem dX7_tell_20 : decode cX7_tell 20 = .ok (.aload_n 0, 1) := by decide +kernel
theorem dX7_tell_21 : decode cX7_tell 21 = .ok (.getfield 25, 3) := by decide +kernel
theorem dX7_tell_24 : decode cX7_tell 24 = .ok (.bipush 60, 2) := by decide +kernel
theorem dX7_tell_26 : decode cX7_tell 26 = .ok (.iadd, 1) := by decide +kernel
theorem dX7_tell_27 : decode cX7_tell 27 = .ok (.iconst 1, 1) := by decide +kernel
theorem dX7_tell_28 : decode cX7_tell 28 = .ok (.isub, 1) := by decide +kernel
theorem dX7_tell_29 : decode cX7_tell 29 = .ok (.iload_n 1, 1) := by decide +kernel
theorem dX7_tell_30 : decode cX7_tell 30 = .ok (.isub, 1) := by decide +kernel
theorem dX7_tell_31 : decode cX7_tell 31 = .ok (.bipush 60, 2) := by decide +kernel
theorem dX7_tell_33 : decode cX7_tell 33 = .ok (.irem, 1) := by decide +kernel
theorem dX7_tell_34 : decode cX7_tell 34 = .ok (.iconst 4, 1) := by decide +kernel
theorem dX7_tell_35 : decode cX7_tell 35 = .ok (.imul, 1) := by decide +kernel
theorem dX7_tell_36 : decode cX7_tell 36 = .ok (.iload_n 2, 1) := by decide +kernel
theorem dX7_tell_37 : decode cX7_tell 37 = .ok (.iadd, 1) := by decide +kernel
theorem dX7_tell_38 : decode cX7_tell 38 = .ok (.iaload, 1) := by decide +kernel
theorem dX7_tell_39 : decode cX7_tell 39 = .ok (.ireturn, 1) := by decide +kernel
theorem dX7_rowsOf_0 : decode cX7_rowsOf 0 = .ok (.iconst 0, 1) := by decide +kernel
theorem dX7_rowsOf_1 : decode cX7_rowsOf 1 = .ok (.istore_n 2, 1) := by decide +kernel
theorem dX7_rowsOf_2 : decode cX7_rowsOf 2 = .ok (.iconst 0, 1) := by decide +kernel
theorem dX7_rowsOf_3 : decode cX7_rowsOf 3 = .ok (.istore_n 3, 1) := by decide +kernel
theorem dX7_rowsOf_4 : decode cX7_rowsOf 4 = .ok (.iload_n 3, 1) := by decide +kernel
theorem dX7_rowsOf_5 : decode cX7_rowsOf 5 = .ok (.aload_n 0, 1) := by decide +kernel
theorem dX7_rowsOf_6 : decode cX7_rowsOf 6 = .ok (.getfield 21, 3) := by decide +kernel
theorem dX7_rowsOf_9 : decode cX7_rowsOf 9 = .ok (.if_icmp .ge 22, 3) := by decide +kernel
theorem dX7_rowsOf_12 : decode cX7_rowsOf 12 = .ok (.aload_n 0, 1) := by decide +kernel
theorem dX7_rowsOf_13 : decode cX7_rowsOf 13 = .ok (.iload_n 3, 1) := by decide +kernel
theorem dX7_rowsOf_14 : decode cX7_rowsOf 14 = .ok (.iconst 1, 1) := by decide +kernel
theorem dX7_rowsOf_15 : decode cX7_rowsOf 15 = .ok (.invokevirtual 34, 3) := by decide +kernel
theorem dX7_rowsOf_18 : decode cX7_rowsOf 18 = .ok (.iload_n 1, 1) := by decide +kernel
theorem dX7_rowsOf_19 : decode cX7_rowsOf 19 = .ok (.if_icmp .ne 6, 3) := by decide +kernel
theorem dX7_rowsOf_22 : decode cX7_rowsOf 22 = .ok (.iinc 2 1, 3) := by decide +kernel
theorem dX7_rowsOf_25 : decode cX7_rowsOf 25 = .ok (.iinc 3 1, 3) := by decide +kernel
theorem dX7_rowsOf_28 : decode cX7_rowsOf 28 = .ok (.goto (-24), 3) := by decide +kernel
theorem dX7_rowsOf_31 : decode cX7_rowsOf 31 = .ok (.iload_n 2, 1) := by decide +kernel
theorem dX7_rowsOf_32 : decode cX7_rowsOf 32 = .ok (.ireturn, 1) := by decide +kernel
theorem dX7_latestOf_0 : decode cX7_latestOf 0 = .ok (.iconst 0, 1) := by decide +kernel
theorem dX7_latestOf_1 : decode cX7_latestOf 1 = .ok (.istore_n 2, 1) := by decide +kernel
theorem dX7_latestOf_2 : decode cX7_latestOf 2 = .ok (.iload_n 2, 1) := by decide +kernel
theorem dX7_latestOf_3 : decode cX7_latestOf 3 = .ok (.aload_n 0, 1) := by decide +kernel
theorem dX7_latestOf_4 : decode cX7_latestOf 4 = .ok (.getfield 21, 3) := by decide +kernel
theorem dX7_latestOf_7 : decode cX7_latestOf 7 = .ok (.if_icmp .ge 26, 3) := by decide +kernel
theorem dX7_latestOf_10 : decode cX7_latestOf 10 = .ok (.aload_n 0, 1) := by decide +kernel
theorem dX7_latestOf_11 : decode cX7_latestOf 11 = .ok (.iload_n 2, 1) := by decide +kernel
theorem dX7_latestOf_12 : decode cX7_latestOf 12 = .ok (.iconst 1, 1) := by decide +kernel
theorem dX7_latestOf_13 : decode cX7_latestOf 13 = .ok (.invokevirtual 34, 3) := by decide +kernel
theorem dX7_latestOf_16 : decode cX7_latestOf 16 = .ok (.iload_n 1, 1) := by decide +kernel
theorem dX7_latestOf_17 : decode cX7_latestOf 17 = .ok (.if_icmp .ne 10, 3) := by decide +kernel
theorem dX7_latestOf_20 : decode cX7_latestOf 20 = .ok (.aload_n 0, 1) := by decide +kernel
theorem dX7_latestOf_21 : decode cX7_latestOf 21 = .ok (.iload_n 2, 1) := by decide +kernel
theorem dX7_latestOf_22 : decode cX7_latestOf 22 = .ok (.iconst 0, 1) := by decide +kernel
theorem dX7_latestOf_23 : decode cX7_latestOf 23 = .ok (.invokevirtual 34, 3) := by decide +kernel
theorem dX7_latestOf_26 : decode cX7_latestOf 26 = .ok (.ireturn, 1) := by decide +kernel
theorem dX7_latestOf_27 : decode cX7_latestOf 27 = .ok (.iinc 2 1, 3) := by decide +kernel
theorem dX7_latestOf_30 : decode cX7_latestOf 30 = .ok (.goto (-28), 3) := by decide +kernel
theorem dX7_latestOf_33 : decode cX7_latestOf 33 = .ok (.iconst (-1), 1) := by decide +kernel
theorem dX7_latestOf_34 : decode cX7_latestOf 34 = .ok (.ireturn, 1) := by decide +kernel
theorem dX8_init_0 : decode cX8_init 0 = .ok (.aload_n 0, 1) := by decide +kernel
theorem dX8_init_1 : decode cX8_init 1 = .ok (.invokespecial 3, 3) := by decide +kernel
theorem dX8_init_4 : decode cX8_init 4 = .ok (.aload_n 0, 1) := by decide +kernel
theorem dX8_init_5 : decode cX8_init 5 = .ok (.iconst 5, 1) := by decide +kernel
theorem dX8_init_6 : decode cX8_init 6 = .ok (.newarray .int, 2) := by decide +kernel
theorem dX8_init_8 : decode cX8_init 8 = .ok (.putfield 9, 3) := by decide +kernel
theorem dX8_init_11 : decode cX8_init 11 = .ok (.aload_n 0, 1) := by decide +kernel
theorem dX8_init_12 : decode cX8_init 12 = .ok (.bipush 32, 2) := by decide +kernel
theorem dX8_init_14 : decode cX8_init 14 = .ok (.newarray .int, 2) := by decide +kernel
theorem dX8_init_16 : decode cX8_init 16 = .ok (.putfield 15, 3) := by decide +kernel
theorem dX8_init_19 : decode cX8_init 19 = .ok (.aload_n 0, 1) := by decide +kernel
theorem dX8_init_20 : decode cX8_init 20 = .ok (.iconst 5, 1) := by decide +kernel
theorem dX8_init_21 : decode cX8_init 21 = .ok (.newarray .int, 2) := by decide +kernel
theorem dX8_init_23 : decode cX8_init 23 = .ok (.putfield 18, 3) := by decide +kernel
theorem dX8_init_26 : decode cX8_init 26 = .ok (.aload_n 0, 1) := by decide +kernel
theorem dX8_init_27 : decode cX8_init 27 = .ok (.aload_n 1, 1) := by decide +kernel
theorem dX8_init_28 : decode cX8_init 28 = .ok (.putfield 21, 3) := by decide +kernel
theorem dX8_init_31 : decode cX8_init 31 = .ok (.aload_n 0, 1) := by decide +kernel
theorem dX8_init_32 : decode cX8_init 32 = .ok (.aload_n 2, 1) := by decide +kernel
theorem dX8_init_33 : decode cX8_init 33 = .ok (.putfield 25, 3) := by decide +kernel
theorem dX8_init_36 : decode cX8_init 36 = .ok (.return_, 1) := by decide +kernel
theorem dX8_doneOf_0 : decode cX8_doneOf 0 = .ok (.aload_n 0, 1) := by decide +kernel
theorem dX8_doneOf_1 : decode cX8_doneOf 1 = .ok (.iload_n 1, 1) := by decide +kernel
theorem dX8_doneOf_2 : decode cX8_doneOf 2 = .ok (.aload_n 0, 1) := by decide +kernel
theorem dX8_doneOf_3 : decode cX8_doneOf 3 = .ok (.getfield 21, 3) := by decide +kernel
theorem dX8_doneOf_6 : decode cX8_doneOf 6 = .ok (.getfield 29, 3) := by decide +kernel
theorem dX8_doneOf_9 : decode cX8_doneOf 9 = .ok (.invokevirtual 35, 3) := by decide +kernel
theorem dX8_doneOf_12 : decode cX8_doneOf 12 = .ok (.pop, 1) := by decide +kernel
theorem dX8_doneOf_13 : decode cX8_doneOf 13 = .ok (.aload_n 0, 1) := by decide +kernel
theorem dX8_doneOf_14 : decode cX8_doneOf 14 = .ok (.getfield 39, 3) := by decide +kernel
theorem dX8_doneOf_17 : decode cX8_doneOf 17 = .ok (.ireturn, 1) := by decide +kernel
theorem dX8_lagOf_0 : decode cX8_lagOf 0 = .ok (.aload_n 0, 1) := by decide +kernel
theorem dX8_lagOf_1 : decode cX8_lagOf 1 = .ok (.getfield 25, 3) := by decide +kernel
theorem dX8_lagOf_4 : decode cX8_lagOf 4 = .ok (.aload_n 0, 1) := by decide +kernel
theorem dX8_lagOf_5 : decode cX8_lagOf 5 = .ok (.getfield 21, 3) := by decide +kernel
theorem dX8_lagOf_8 : decode cX8_lagOf 8 = .ok (.aload_n 0, 1) := by decide +kernel
theorem dX8_lagOf_9 : decode cX8_lagOf 9 = .ok (.getfield 21, 3) := by decide +kernel
theorem dX8_lagOf_12 : decode cX8_lagOf 12 = .ok (.getfield 42, 3) := by decide +kernel
theorem dX8_lagOf_15 : decode cX8_lagOf 15 = .ok (.iload_n 1, 1) := by decide +kernel
theorem dX8_lagOf_16 : decode cX8_lagOf 16 = .ok (.iaload, 1) := by decide +kernel
theorem dX8_lagOf_17 : decode cX8_lagOf 17 = .ok (.invokevirtual 45, 3) := by decide +kernel
theorem dX8_lagOf_20 : decode cX8_lagOf 20 = .ok (.iconst 1, 1) := by decide +kernel
theorem dX8_lagOf_21 : decode cX8_lagOf 21 = .ok (.aload_n 0, 1) := by decide +kernel
theorem dX8_lagOf_22 : decode cX8_lagOf 22 = .ok (.getfield 21, 3) := by decide +kernel
theorem dX8_lagOf_25 : decode cX8_lagOf 25 = .ok (.getfield 51, 3) := by decide +kernel
theorem dX8_lagOf_28 : decode cX8_lagOf 28 = .ok (.iload_n 1, 1) := by decide +kernel
theorem dX8_lagOf_29 : decode cX8_lagOf 29 = .ok (.iaload, 1) := by decide +kernel
theorem dX8_lagOf_30 : decode cX8_lagOf 30 = .ok (.invokestatic 54, 3) := by decide +kernel
theorem dX8_lagOf_33 : decode cX8_lagOf 33 = .ok (.istore_n 3, 1) := by decide +kernel
theorem dX8_lagOf_34 : decode cX8_lagOf 34 = .ok (.iconst 0, 1) := by decide +kernel
theorem dX8_lagOf_35 : decode cX8_lagOf 35 = .ok (.istore 4, 2) := by decide +kernel
theorem dX8_lagOf_37 : decode cX8_lagOf 37 = .ok (.aload_n 0, 1) := by decide +kernel
theorem dX8_lagOf_38 : decode cX8_lagOf 38 = .ok (.iconst 0, 1) := by decide +kernel
theorem dX8_lagOf_39 : decode cX8_lagOf 39 = .ok (.putfield 39, 3) := by decide +kernel
theorem dX8_lagOf_42 : decode cX8_lagOf 42 = .ok (.iconst 0, 1) := by decide +kernel
theorem dX8_lagOf_43 : decode cX8_lagOf 43 = .ok (.istore 5, 2) := by decide +kernel
theorem dX8_lagOf_45 : decode cX8_lagOf 45 = .ok (.iload 5, 2) := by decide +kernel
theorem dX8_lagOf_47 : decode cX8_lagOf 47 = .ok (.aload_n 0, 1) := by decide +kernel
theorem dX8_lagOf_48 : decode cX8_lagOf 48 = .ok (.getfield 21, 3) := by decide +kernel
theorem dX8_lagOf_51 : decode cX8_lagOf 51 = .ok (.getfield 59, 3) := by decide +kernel
theorem dX8_lagOf_54 : decode cX8_lagOf 54 = .ok (.if_icmp .ge 67, 3) := by decide +kernel
theorem dX8_lagOf_57 : decode cX8_lagOf 57 = .ok (.aload_n 0, 1) := by decide +kernel
theorem dX8_lagOf_58 : decode cX8_lagOf 58 = .ok (.getfield 39, 3) := by decide +kernel
theorem dX8_lagOf_61 : decode cX8_lagOf 61 = .ok (.iload 5, 2) := by decide +kernel
theorem dX8_lagOf_63 : decode cX8_lagOf 63 = .ok (.iload_n 2, 1) := by decide +kernel
theorem dX8_lagOf_64 : decode cX8_lagOf 64 = .ok (.imul, 1) := by decide +kernel
theorem dX8_lagOf_65 : decode cX8_lagOf 65 = .ok (.invokestatic 54, 3) := by decide +kernel
theorem dX8_lagOf_68 : decode cX8_lagOf 68 = .ok (.istore 6, 2) := by decide +kernel
theorem dX8_lagOf_70 : decode cX8_lagOf 70 = .ok (.iload 4, 2) := by decide +kernel
theorem dX8_lagOf_72 : decode cX8_lagOf 72 = .ok (.iload 6, 2) := by decide +kernel
theorem dX8_lagOf_74 : decode cX8_lagOf 74 = .ok (.iload 5, 2) := by decide +kernel
theorem dX8_lagOf_76 : decode cX8_lagOf 76 = .ok (.iload_n 2, 1) := by decide +kernel
theorem dX8_lagOf_77 : decode cX8_lagOf 77 = .ok (.imul, 1) := by decide +kernel
theorem dX8_lagOf_78 : decode cX8_lagOf 78 = .ok (.isub, 1) := by decide +kernel
theorem dX8_lagOf_79 : decode cX8_lagOf 79 = .ok (.invokestatic 54, 3) := by decide +kernel
theorem dX8_lagOf_82 : decode cX8_lagOf 82 = .ok (.istore 4, 2) := by decide +kernel
theorem dX8_lagOf_84 : decode cX8_lagOf 84 = .ok (.aload_n 0, 1) := by decide +kernel
theorem dX8_lagOf_85 : decode cX8_lagOf 85 = .ok (.iload 6, 2) := by decide +kernel
theorem dX8_lagOf_87 : decode cX8_lagOf 87 = .ok (.aload_n 0, 1) := by decide +kernel
theorem dX8_lagOf_88 : decode cX8_lagOf 88 = .ok (.getfield 25, 3) := by decide +kernel
theorem dX8_lagOf_91 : decode cX8_lagOf 91 = .ok (.getfield 62, 3) := by decide +kernel
theorem dX8_lagOf_94 : decode cX8_lagOf 94 = .ok (.aload_n 0, 1) := by decide +kernel
theorem dX8_lagOf_95 : decode cX8_lagOf 95 = .ok (.getfield 21, 3) := by decide +kernel
theorem dX8_lagOf_98 : decode cX8_lagOf 98 = .ok (.getfield 65, 3) := by decide +kernel
theorem dX8_lagOf_101 : decode cX8_lagOf 101 = .ok (.iload 5, 2) := by decide +kernel
theorem dX8_lagOf_103 : decode cX8_lagOf 103 = .ok (.iaload, 1) := by decide +kernel
theorem dX8_lagOf_104 : decode cX8_lagOf 104 = .ok (.iaload, 1) := by decide +kernel
theorem dX8_lagOf_105 : decode cX8_lagOf 105 = .ok (.iload_n 3, 1) := by decide +kernel
theorem dX8_lagOf_106 : decode cX8_lagOf 106 = .ok (.iadd, 1) := by decide +kernel
theorem dX8_lagOf_107 : decode cX8_lagOf 107 = .ok (.iconst 1, 1) := by decide +kernel
theorem dX8_lagOf_108 : decode cX8_lagOf 108 = .ok (.isub, 1) := by decide +kernel
theorem dX8_lagOf_109 : decode cX8_lagOf 109 = .ok (.iload_n 3, 1) := by decide +kernel
theorem dX8_lagOf_110 : decode cX8_lagOf 110 = .ok (.idiv, 1) := by decide +kernel
theorem dX8_lagOf_111 : decode cX8_lagOf 111 = .ok (.iadd, 1) := by decide +kernel
theorem dX8_lagOf_112 : decode cX8_lagOf 112 = .ok (.putfield 39, 3) := by decide +kernel
theorem dX8_lagOf_115 : decode cX8_lagOf 115 = .ok (.iinc 5 1, 3) := by decide +kernel
theorem dX8_lagOf_118 : decode cX8_lagOf 118 = .ok (.goto (-73), 3) := by decide +kernel
theorem dX8_lagOf_121 : decode cX8_lagOf 121 = .ok (.iload 4, 2) := by decide +kernel
theorem dX8_lagOf_123 : decode cX8_lagOf 123 = .ok (.ireturn, 1) := by decide +kernel
theorem dX8_edgeOf_0 : decode cX8_edgeOf 0 = .ok (.iconst 1, 1) := by decide +kernel
theorem dX8_edgeOf_1 : decode cX8_edgeOf 1 = .ok (.istore_n 2, 1) := by decide +kernel
theorem dX8_edgeOf_2 : decode cX8_edgeOf 2 = .ok (.iload_n 2, 1) := by decide +kernel
theorem dX8_edgeOf_3 : decode cX8_edgeOf 3 = .ok (.bipush 9, 2) := by decide +kernel
theorem dX8_edgeOf_5 : decode cX8_edgeOf 5 = .ok (.if_icmp .gt 20, 3) := by decide +kernel
theorem dX8_edgeOf_8 : decode cX8_edgeOf 8 = .ok (.aload_n 0, 1) := by decide +kernel
theorem dX8_edgeOf_9 : decode cX8_edgeOf 9 = .ok (.iload_n 1, 1) := by decide +kernel
theorem dX8_edgeOf_10 : decode cX8_edgeOf 10 = .ok (.iload_n 2, 1) := by decide +kernel
theorem dX8_edgeOf_11 : decode cX8_edgeOf 11 = .ok (.invokevirtual 35, 3) := by decide +kernel
theorem dX8_edgeOf_14 : decode cX8_edgeOf 14 = .ok (.ifCond .ne 5, 3) := by decide +kernel
theorem dX8_edgeOf_17 : decode cX8_edgeOf 17 = .ok (.iload_n 2, 1) := by decide +kernel
theorem dX8_edgeOf_18 : decode cX8_edgeOf 18 = .ok (.ireturn, 1) := by decide +kernel
theorem dX8_edgeOf_19 : decode cX8_edgeOf 19 = .ok (.iinc 2 1, 3) := by decide +kernel
theorem dX8_edgeOf_22 : decode cX8_edgeOf 22 = .ok (.goto (-20), 3) := by decide +kernel
theorem dX8_edgeOf_25 : decode cX8_edgeOf 25 = .ok (.iconst (-1), 1) := by decide +kernel
theorem dX8_edgeOf_26 : decode cX8_edgeOf 26 = .ok (.ireturn, 1) := by decide +kernel
theorem dX8_runOf_0 : decode cX8_runOf 0 = .ok (.iconst 0, 1) := by decide +kernel
theorem dX8_runOf_1 : decode cX8_runOf 1 = .ok (.istore_n 2, 1) := by decide +kernel
theorem dX8_runOf_2 : decode cX8_runOf 2 = .ok (.iconst 0, 1) := by decide +kernel
theorem dX8_runOf_3 : decode cX8_runOf 3 = .ok (.istore_n 3, 1) := by decide +kernel
theorem dX8_runOf_4 : decode cX8_runOf 4 = .ok (.iconst 0, 1) := by decide +kernel
theorem dX8_runOf_5 : decode cX8_runOf 5 = .ok (.istore 4, 2) := by decide +kernel
theorem dX8_runOf_7 : decode cX8_runOf 7 = .ok (.iload 4, 2) := by decide +kernel
theorem dX8_runOf_9 : decode cX8_runOf 9 = .ok (.aload_n 0, 1) := by decide +kernel
theorem dX8_runOf_10 : decode cX8_runOf 10 = .ok (.getfield 21, 3) := by decide +kernel
theorem dX8_runOf_13 : decode cX8_runOf 13 = .ok (.getfield 68, 3) := by decide +kernel
theorem dX8_runOf_16 : decode cX8_runOf 16 = .ok (.if_icmp .ge 37, 3) := by decide +kernel
theorem dX8_runOf_19 : decode cX8_runOf 19 = .ok (.aload_n 0, 1) := by decide +kernel
theorem dX8_runOf_20 : decode cX8_runOf 20 = .ok (.getfield 21, 3) := by decide +kernel
theorem dX8_runOf_23 : decode cX8_runOf 23 = .ok (.iload_n 1, 1) := by decide +kernel
theorem dX8_runOf_24 : decode cX8_runOf 24 = .ok (.iload 4, 2) := by decide +kernel
theorem dX8_runOf_26 : decode cX8_runOf 26 = .ok (.invokevirtual 71, 3) := by decide +kernel
theorem dX8_runOf_29 : decode cX8_runOf 29 = .ok (.iconst 1, 1) := by decide +kernel
theorem dX8_runOf_30 : decode cX8_runOf 30 = .ok (.if_icmp .ne 9, 3) := by decide +kernel
theorem dX8_runOf_33 : decode cX8_runOf 33 = .ok (.iload_n 3, 1) := by decide +kernel
theorem dX8_runOf_34 : decode cX8_runOf 34 = .ok (.iconst 1, 1) := by decide +kernel
theorem dX8_runOf_35 : decode cX8_runOf 35 = .ok (.iadd, 1) := by decide +kernel
theorem dX8_runOf_36 : decode cX8_runOf 36 = .ok (.goto 4, 3) := by decide +kernel
theorem dX8_runOf_39 : decode cX8_runOf 39 = .ok (.iconst 0, 1) := by decide +kernel
theorem dX8_runOf_40 : decode cX8_runOf 40 = .ok (.istore_n 3, 1) := by decide +kernel
theorem dX8_runOf_41 : decode cX8_runOf 41 = .ok (.iload_n 2, 1) := by decide +kernel
theorem dX8_runOf_42 : decode cX8_runOf 42 = .ok (.iload_n 3, 1) := by decide +kernel
theorem dX8_runOf_43 : decode cX8_runOf 43 = .ok (.invokestatic 54, 3) := by decide +kernel
theorem dX8_runOf_46 : decode cX8_runOf 46 = .ok (.istore_n 2, 1) := by decide +kernel
theorem dX8_runOf_47 : decode cX8_runOf 47 = .ok (.iinc 4 1, 3) := by decide +kernel
theorem dX8_runOf_50 : decode cX8_runOf 50 = .ok (.goto (-43), 3) := by decide +kernel
theorem dX8_runOf_53 : decode cX8_runOf 53 = .ok (.iload_n 2, 1) := by decide +kernel
theorem dX8_runOf_54 : decode cX8_runOf 54 = .ok (.ireturn, 1) := by decide +kernel
theorem dX8_gapsOf_0 : decode cX8_gapsOf 0 = .ok (.aload_n 0, 1) := by decide +kernel
theorem dX8_gapsOf_1 : decode cX8_gapsOf 1 = .ok (.getfield 21, 3) := by decide +kernel
theorem dX8_gapsOf_4 : decode cX8_gapsOf 4 = .ok (.getfield 68, 3) := by decide +kernel
theorem dX8_gapsOf_7 : decode cX8_gapsOf 7 = .ok (.aload_n 0, 1) := by decide +kernel
theorem dX8_gapsOf_8 : decode cX8_gapsOf 8 = .ok (.getfield 21, 3) := by decide +kernel
theorem dX8_gapsOf_11 : decode cX8_gapsOf 11 = .ok (.iload_n 1, 1) := by decide +kernel
theorem dX8_gapsOf_12 : decode cX8_gapsOf 12 = .ok (.iconst 1, 1) := by decide +kernel
theorem dX8_gapsOf_13 : decode cX8_gapsOf 13 = .ok (.invokevirtual 74, 3) := by decide +kernel
theorem dX8_gapsOf_16 : decode cX8_gapsOf 16 = .ok (.isub, 1) := by decide +kernel
theorem dX8_gapsOf_17 : decode cX8_gapsOf 17 = .ok (.ireturn, 1) := by decide +kernel
theorem dX8_trueOf_0 : decode cX8_trueOf 0 = .ok (.aload_n 0, 1) := by decide +kernel
theorem dX8_trueOf_1 : decode cX8_trueOf 1 = .ok (.getfield 25, 3) := by decide +kernel
theorem dX8_trueOf_4 : decode cX8_trueOf 4 = .ok (.aload_n 0, 1) := by decide +kernel
theorem dX8_trueOf_5 : decode cX8_trueOf 5 = .ok (.getfield 21, 3) := by decide +kernel
theorem dX8_trueOf_8 : decode cX8_trueOf 8 = .ok (.aload_n 0, 1) := by decide +kernel
theorem dX8_trueOf_9 : decode cX8_trueOf 9 = .ok (.getfield 21, 3) := by decide +kernel
theorem dX8_trueOf_12 : decode cX8_trueOf 12 = .ok (.getfield 42, 3) := by decide +kernel
theorem dX8_trueOf_15 : decode cX8_trueOf 15 = .ok (.iload_n 1, 1) := by decide +kernel
theorem dX8_trueOf_16 : decode cX8_trueOf 16 = .ok (.iaload, 1) := by decide +kernel
theorem dX8_trueOf_17 : decode cX8_trueOf 17 = .ok (.invokevirtual 45, 3) := by decide +kernel
theorem dX8_trueOf_20 : decode cX8_trueOf 20 = .ok (.iconst 0, 1) := by decide +kernel
theorem dX8_trueOf_21 : decode cX8_trueOf 21 = .ok (.istore_n 2, 1) := by decide +kernel
theorem dX8_trueOf_22 : decode cX8_trueOf 22 = .ok (.iconst 0, 1) := by decide +kernel
theorem dX8_trueOf_23 : decode cX8_trueOf 23 = .ok (.istore_n 3, 1) := by decide +kernel
theorem dX8_trueOf_24 : decode cX8_trueOf 24 = .ok (.iload_n 3, 1) := by decide +kernel
theorem dX8_trueOf_25 : decode cX8_trueOf 25 = .ok (.aload_n 0, 1) := by decide +kernel
theorem dX8_trueOf_26 : decode cX8_trueOf 26 = .ok (.getfield 21, 3) := by decide +kernel
theorem dX8_trueOf_29 : decode cX8_trueOf 29 = .ok (.getfield 68, 3) := by decide +kernel
theorem dX8_trueOf_32 : decode cX8_trueOf 32 = .ok (.if_icmp .ge 50, 3) := by decide +kernel
theorem dX8_trueOf_35 : decode cX8_trueOf 35 = .ok (.aload_n 0, 1) := by decide +kernel
theorem dX8_trueOf_36 : decode cX8_trueOf 36 = .ok (.getfield 21, 3) := by decide +kernel
theorem dX8_trueOf_39 : decode cX8_trueOf 39 = .ok (.getfield 65, 3) := by decide +kernel
theorem dX8_trueOf_42 : decode cX8_trueOf 42 = .ok (.iload_n 3, 1) := by decide +kernel
theorem dX8_trueOf_43 : decode cX8_trueOf 43 = .ok (.iaload, 1) := by decide +kernel
theorem dX8_trueOf_44 : decode cX8_trueOf 44 = .ok (.istore 4, 2) := by decide +kernel
theorem dX8_trueOf_46 : decode cX8_trueOf 46 = .ok (.aload_n 0, 1) := by decide +kernel
theorem dX8_trueOf_47 : decode cX8_trueOf 47 = .ok (.getfield 21, 3) := by decide +kernel
theorem dX8_trueOf_50 : decode cX8_trueOf 50 = .ok (.iload_n 1, 1) := by decide +kernel
theorem dX8_trueOf_51 : decode cX8_trueOf 51 = .ok (.iload_n 3, 1) := by decide +kernel
theorem dX8_trueOf_52 : decode cX8_trueOf 52 = .ok (.invokevirtual 71, 3) := by decide +kernel
theorem dX8_trueOf_55 : decode cX8_trueOf 55 = .ok (.iconst 1, 1) := by decide +kernel
theorem dX8_trueOf_56 : decode cX8_trueOf 56 = .ok (.if_icmp .ne 20, 3) := by decide +kernel
theorem dX8_trueOf_59 : decode cX8_trueOf 59 = .ok (.aload_n 0, 1) := by decide +kernel
theorem dX8_trueOf_60 : decode cX8_trueOf 60 = .ok (.getfield 25, 3) := by decide +kernel
theorem dX8_trueOf_63 : decode cX8_trueOf 63 = .ok (.iload 4, 2) := by decide +kernel
theorem dX8_trueOf_65 : decode cX8_trueOf 65 = .ok (.invokevirtual 77, 3) := by decide +kernel
theorem dX8_trueOf_68 : decode cX8_trueOf 68 = .ok (.iload 4, 2) := by decide +kernel
theorem dX8_trueOf_70 : decode cX8_trueOf 70 = .ok (.if_icmp .ne 6, 3) := by decide +kernel
theorem dX8_trueOf_73 : decode cX8_trueOf 73 = .ok (.iinc 2 1, 3) := by decide +kernel
theorem dX8_trueOf_76 : decode cX8_trueOf 76 = .ok (.iinc 3 1, 3) := by decide +kernel
theorem dX8_trueOf_79 : decode cX8_trueOf 79 = .ok (.goto (-55), 3) := by decide +kernel
theorem dX8_trueOf_82 : decode cX8_trueOf 82 = .ok (.iload_n 2, 1) := by decide +kernel
theorem dX8_trueOf_83 : decode cX8_trueOf 83 = .ok (.ireturn, 1) := by decide +kernel
theorem dX8_shareOf_0 : decode cX8_shareOf 0 = .ok (.aload_n 0, 1) := by decide +kernel
theorem dX8_shareOf_1 : decode cX8_shareOf 1 = .ok (.getfield 21, 3) := by decide +kernel
theorem dX8_shareOf_4 : decode cX8_shareOf 4 = .ok (.iconst 1, 1) := by decide +kernel
theorem dX8_shareOf_5 : decode cX8_shareOf 5 = .ok (.invokevirtual 81, 3) := by decide +kernel
theorem dX8_shareOf_8 : decode cX8_shareOf 8 = .ok (.istore_n 2, 1) := by decide +kernel
theorem dX8_shareOf_9 : decode cX8_shareOf 9 = .ok (.iload_n 2, 1) := by decide +kernel
theorem dX8_shareOf_10 : decode cX8_shareOf 10 = .ok (.ifCond .ne 7, 3) := by decide +kernel
theorem dX8_shareOf_13 : decode cX8_shareOf 13 = .ok (.iconst 0, 1) := by decide +kernel
theorem dX8_shareOf_14 : decode cX8_shareOf 14 = .ok (.goto 17, 3) := by decide +kernel
theorem dX8_shareOf_17 : decode cX8_shareOf 17 = .ok (.aload_n 0, 1) := by decide +kernel
theorem dX8_shareOf_18 : decode cX8_shareOf 18 = .ok (.getfield 21, 3) := by decide +kernel
theorem dX8_shareOf_21 : decode cX8_shareOf 21 = .ok (.iload_n 1, 1) := by decide +kernel
theorem dX8_shareOf_22 : decode cX8_shareOf 22 = .ok (.iconst 1, 1) := by decide +kernel
theorem dX8_shareOf_23 : decode cX8_shareOf 23 = .ok (.invokevirtual 74, 3) := by decide +kernel
theorem dX8_shareOf_26 : decode cX8_shareOf 26 = .ok (.bipush 100, 2) := by decide +kernel
theorem dX8_shareOf_28 : decode cX8_shareOf 28 = .ok (.imul, 1) := by decide +kernel
theorem dX8_shareOf_29 : decode cX8_shareOf 29 = .ok (.iload_n 2, 1) := by decide +kernel
theorem dX8_shareOf_30 : decode cX8_shareOf 30 = .ok (.idiv, 1) := by decide +kernel
theorem dX8_shareOf_31 : decode cX8_shareOf 31 = .ok (.ireturn, 1) := by decide +kernel
theorem dX8_pagesOf_0 : decode cX8_pagesOf 0 = .ok (.aload_n 0, 1) := by decide +kernel
theorem dX8_pagesOf_1 : decode cX8_pagesOf 1 = .ok (.getfield 9, 3) := by decide +kernel
theorem dX8_pagesOf_4 : decode cX8_pagesOf 4 = .ok (.iconst 0, 1) := by decide +kernel
theorem dX8_pagesOf_5 : decode cX8_pagesOf 5 = .ok (.invokestatic 84, 3) := by decide +kernel
theorem dX8_pagesOf_8 : decode cX8_pagesOf 8 = .ok (.iconst 0, 1) := by decide +kernel
theorem dX8_pagesOf_9 : decode cX8_pagesOf 9 = .ok (.istore_n 3, 1) := by decide +kernel
theorem dX8_pagesOf_10 : decode cX8_pagesOf 10 = .ok (.iload_n 3, 1) := by decide +kernel
theorem dX8_pagesOf_11 : decode cX8_pagesOf 11 = .ok (.iload_n 2, 1) := by decide +kernel
theorem dX8_pagesOf_12 : decode cX8_pagesOf 12 = .ok (.if_icmp .ge 63, 3) := by decide +kernel
theorem dX8_pagesOf_15 : decode cX8_pagesOf 15 = .ok (.iconst 0, 1) := by decide +kernel
theorem dX8_pagesOf_16 : decode cX8_pagesOf 16 = .ok (.istore 4, 2) := by decide +kernel
theorem dX8_pagesOf_18 : decode cX8_pagesOf 18 = .ok (.iconst 1, 1) := by decide +kernel
theorem dX8_pagesOf_19 : decode cX8_pagesOf 19 = .ok (.istore 5, 2) := by decide +kernel
theorem dX8_pagesOf_21 : decode cX8_pagesOf 21 = .ok (.iload 5, 2) := by decide +kernel
theorem dX8_pagesOf_23 : decode cX8_pagesOf 23 = .ok (.aload_n 0, 1) := by decide +kernel
theorem dX8_pagesOf_24 : decode cX8_pagesOf 24 = .ok (.getfield 21, 3) := by decide +kernel
theorem dX8_pagesOf_27 : decode cX8_pagesOf 27 = .ok (.getfield 90, 3) := by decide +kernel
theorem dX8_pagesOf_30 : decode cX8_pagesOf 30 = .ok (.if_icmp .ge 28, 3) := by decide +kernel
theorem dX8_pagesOf_33 : decode cX8_pagesOf 33 = .ok (.aload_n 0, 1) := by decide +kernel
theorem dX8_pagesOf_34 : decode cX8_pagesOf 34 = .ok (.iload 5, 2) := by decide +kernel
theorem dX8_pagesOf_36 : decode cX8_pagesOf 36 = .ok (.invokevirtual 93, 3) := by decide +kernel
theorem dX8_pagesOf_39 : decode cX8_pagesOf 39 = .ok (.aload_n 0, 1) := by decide +kernel
theorem dX8_pagesOf_40 : decode cX8_pagesOf 40 = .ok (.iload 4, 2) := by decide +kernel
theorem dX8_pagesOf_42 : decode cX8_pagesOf 42 = .ok (.invokevirtual 93, 3) := by decide +kernel
theorem dX8_pagesOf_45 : decode cX8_pagesOf 45 = .ok (.if_icmp .le 7, 3) := by decide +kernel
theorem dX8_pagesOf_48 : decode cX8_pagesOf 48 = .ok (.iload 5, 2) := by decide +kernel
theorem dX8_pagesOf_50 : decode cX8_pagesOf 50 = .ok (.istore 4, 2) := by decide +kernel
theorem dX8_pagesOf_52 : decode cX8_pagesOf 52 = .ok (.iinc 5 1, 3) := by decide +kernel
theorem dX8_pagesOf_55 : decode cX8_pagesOf 55 = .ok (.goto (-34), 3) := by decide +kernel
theorem dX8_pagesOf_58 : decode cX8_pagesOf 58 = .ok (.aload_n 0, 1) := by decide +kernel
theorem dX8_pagesOf_59 : decode cX8_pagesOf 59 = .ok (.getfield 9, 3) := by decide +kernel
theorem dX8_pagesOf_62 : decode cX8_pagesOf 62 = .ok (.iload 4, 2) := by decide +kernel
theorem dX8_pagesOf_64 : decode cX8_pagesOf 64 = .ok (.dup2, 1) := by decide +kernel
theorem dX8_pagesOf_65 : decode cX8_pagesOf 65 = .ok (.iaload, 1) := by decide +kernel
theorem dX8_pagesOf_66 : decode cX8_pagesOf 66 = .ok (.iconst 1, 1) := by decide +kernel
theorem dX8_pagesOf_67 : decode cX8_pagesOf 67 = .ok (.iadd, 1) := by decide +kernel
theorem dX8_pagesOf_68 : decode cX8_pagesOf 68 = .ok (.iastore, 1) := by decide +kernel
theorem dX8_pagesOf_69 : decode cX8_pagesOf 69 = .ok (.iinc 3 1, 3) := by decide +kernel
theorem dX8_pagesOf_72 : decode cX8_pagesOf 72 = .ok (.goto (-62), 3) := by decide +kernel
theorem dX8_pagesOf_75 : decode cX8_pagesOf 75 = .ok (.aload_n 0, 1) := by decide +kernel
theorem dX8_pagesOf_76 : decode cX8_pagesOf 76 = .ok (.getfield 9, 3) := by decide +kernel
theorem dX8_pagesOf_79 : decode cX8_pagesOf 79 = .ok (.iload_n 1, 1) := by decide +kernel
theorem dX8_pagesOf_80 : decode cX8_pagesOf 80 = .ok (.iaload, 1) := by decide +kernel
theorem dX8_pagesOf_81 : decode cX8_pagesOf 81 = .ok (.ireturn, 1) := by decide +kernel
theorem dX8_claimOf_0 : decode cX8_claimOf 0 = .ok (.aload_n 0, 1) := by decide +kernel
theorem dX8_claimOf_1 : decode cX8_claimOf 1 = .ok (.getfield 21, 3) := by decide +kernel
theorem dX8_claimOf_4 : decode cX8_claimOf 4 = .ok (.getfield 51, 3) := by decide +kernel
theorem dX8_claimOf_7 : decode cX8_claimOf 7 = .ok (.iload_n 1, 1) := by decide +kernel
theorem dX8_claimOf_8 : decode cX8_claimOf 8 = .ok (.iaload, 1) := by decide +kernel
theorem dX8_claimOf_9 : decode cX8_claimOf 9 = .ok (.aload_n 0, 1) := by decide +kernel
theorem dX8_claimOf_10 : decode cX8_claimOf 10 = .ok (.getfield 9, 3) := by decide +kernel
theorem dX8_claimOf_13 : decode cX8_claimOf 13 = .ok (.iload_n 1, 1) := by decide +kernel
theorem dX8_claimOf_14 : decode cX8_claimOf 14 = .ok (.iaload, 1) := by decide +kernel
theorem dX8_claimOf_15 : decode cX8_claimOf 15 = .ok (.iconst 1, 1) := by decide +kernel
theorem dX8_claimOf_16 : decode cX8_claimOf 16 = .ok (.iadd, 1) := by decide +kernel
theorem dX8_claimOf_17 : decode cX8_claimOf 17 = .ok (.idiv, 1) := by decide +kernel
theorem dX8_claimOf_18 : decode cX8_claimOf 18 = .ok (.ireturn, 1) := by decide +kernel
theorem dX8_findPairs_0 : decode cX8_findPairs 0 = .ok (.iconst 1, 1) := by decide +kernel
theorem dX8_findPairs_1 : decode cX8_findPairs 1 = .ok (.aload_n 0, 1) := by decide +kernel
theorem dX8_findPairs_2 : decode cX8_findPairs 2 = .ok (.getfield 21, 3) := by decide +kernel
theorem dX8_findPairs_5 : decode cX8_findPairs 5 = .ok (.getfield 90, 3) := by decide +kernel
theorem dX8_findPairs_8 : decode cX8_findPairs 8 = .ok (.ishl, 1) := by decide +kernel
theorem dX8_findPairs_9 : decode cX8_findPairs 9 = .ok (.istore_n 1, 1) := by decide +kernel
theorem dX8_findPairs_10 : decode cX8_findPairs 10 = .ok (.iconst 0, 1) := by decide +kernel
theorem dX8_findPairs_11 : decode cX8_findPairs 11 = .ok (.istore_n 2, 1) := by decide +kernel
theorem dX8_findPairs_12 : decode cX8_findPairs 12 = .ok (.iload_n 2, 1) := by decide +kernel
theorem dX8_findPairs_13 : decode cX8_findPairs 13 = .ok (.iload_n 1, 1) := by decide +kernel
theorem dX8_findPairs_14 : decode cX8_findPairs 14 = .ok (.if_icmp .ge 91, 3) := by decide +kernel
theorem dX8_findPairs_17 : decode cX8_findPairs 17 = .ok (.aload_n 0, 1) := by decide +kernel
theorem dX8_findPairs_18 : decode cX8_findPairs 18 = .ok (.getfield 15, 3) := by decide +kernel
theorem dX8_findPairs_21 : decode cX8_findPairs 21 = .ok (.iload_n 2, 1) := by decide +kernel
theorem dX8_findPairs_22 : decode cX8_findPairs 22 = .ok (.iconst 0, 1) := by decide +kernel
theorem dX8_findPairs_23 : decode cX8_findPairs 23 = .ok (.iastore, 1) := by decide +kernel
theorem dX8_findPairs_24 : decode cX8_findPairs 24 = .ok (.aload_n 0, 1) := by decide +kernel
theorem dX8_findPairs_25 : decode cX8_findPairs 25 = .ok (.iload_n 2, 1) := by decide +kernel
theorem dX8_findPairs_26 : decode cX8_findPairs 26 = .ok (.invokevirtual 96, 3) := by decide +kernel
theorem dX8_findPairs_29 : decode cX8_findPairs 29 = .ok (.istore_n 3, 1) := by decide +kernel
theorem dX8_findPairs_30 : decode cX8_findPairs 30 = .ok (.iload_n 3, 1) := by decide +kernel
theorem dX8_findPairs_31 : decode cX8_findPairs 31 = .ok (.iconst (-1), 1) := by decide +kernel
theorem dX8_findPairs_32 : decode cX8_findPairs 32 = .ok (.if_icmp .eq 67, 3) := by decide +kernel
theorem dX8_findPairs_35 : decode cX8_findPairs 35 = .ok (.aload_n 0, 1) := by decide +kernel
theorem dX8_findPairs_36 : decode cX8_findPairs 36 = .ok (.getfield 15, 3) := by decide +kernel
theorem dX8_findPairs_39 : decode cX8_findPairs 39 = .ok (.iload_n 2, 1) := by decide +kernel
theorem dX8_findPairs_40 : decode cX8_findPairs 40 = .ok (.aload_n 0, 1) := by decide +kernel
theorem dX8_findPairs_41 : decode cX8_findPairs 41 = .ok (.getfield 15, 3) := by decide +kernel
theorem dX8_findPairs_44 : decode cX8_findPairs 44 = .ok (.iload_n 2, 1) := by decide +kernel
theorem dX8_findPairs_45 : decode cX8_findPairs 45 = .ok (.iconst 1, 1) := by decide +kernel
theorem dX8_findPairs_46 : decode cX8_findPairs 46 = .ok (.iload_n 3, 1) := by decide +kernel
theorem dX8_findPairs_47 : decode cX8_findPairs 47 = .ok (.ishl, 1) := by decide +kernel
theorem dX8_findPairs_48 : decode cX8_findPairs 48 = .ok (.iconst (-1), 1) := by decide +kernel
theorem dX8_findPairs_49 : decode cX8_findPairs 49 = .ok (.ixor, 1) := by decide +kernel
theorem dX8_findPairs_50 : decode cX8_findPairs 50 = .ok (.iand, 1) := by decide +kernel
theorem dX8_findPairs_51 : decode cX8_findPairs 51 = .ok (.iaload, 1) := by decide +kernel
theorem dX8_findPairs_52 : decode cX8_findPairs 52 = .ok (.iastore, 1) := by decide +kernel
theorem dX8_findPairs_53 : decode cX8_findPairs 53 = .ok (.iload_n 3, 1) := by decide +kernel
theorem dX8_findPairs_54 : decode cX8_findPairs 54 = .ok (.iconst 1, 1) := by decide +kernel
theorem dX8_findPairs_55 : decode cX8_findPairs 55 = .ok (.iadd, 1) := by decide +kernel
theorem dX8_findPairs_56 : decode cX8_findPairs 56 = .ok (.istore 4, 2) := by decide +kernel
theorem dX8_findPairs_58 : decode cX8_findPairs 58 = .ok (.iload 4, 2) := by decide +kernel
theorem dX8_findPairs_60 : decode cX8_findPairs 60 = .ok (.aload_n 0, 1) := by decide +kernel
theorem dX8_findPairs_61 : decode cX8_findPairs 61 = .ok (.getfield 21, 3) := by decide +kernel
theorem dX8_findPairs_64 : decode cX8_findPairs 64 = .ok (.getfield 90, 3) := by decide +kernel
theorem dX8_findPairs_67 : decode cX8_findPairs 67 = .ok (.if_icmp .ge 32, 3) := by decide +kernel
theorem dX8_findPairs_70 : decode cX8_findPairs 70 = .ok (.aload_n 0, 1) := by decide +kernel
theorem dX8_findPairs_71 : decode cX8_findPairs 71 = .ok (.getfield 15, 3) := by decide +kernel
theorem dX8_findPairs_74 : decode cX8_findPairs 74 = .ok (.iload_n 2, 1) := by decide +kernel
theorem dX8_findPairs_75 : decode cX8_findPairs 75 = .ok (.aload_n 0, 1) := by decide +kernel
theorem dX8_findPairs_76 : decode cX8_findPairs 76 = .ok (.getfield 15, 3) := by decide +kernel
theorem dX8_findPairs_79 : decode cX8_findPairs 79 = .ok (.iload_n 2, 1) := by decide +kernel
theorem dX8_findPairs_80 : decode cX8_findPairs 80 = .ok (.iaload, 1) := by decide +kernel
theorem dX8_findPairs_81 : decode cX8_findPairs 81 = .ok (.aload_n 0, 1) := by decide +kernel
theorem dX8_findPairs_82 : decode cX8_findPairs 82 = .ok (.iload_n 2, 1) := by decide +kernel
theorem dX8_findPairs_83 : decode cX8_findPairs 83 = .ok (.iload_n 3, 1) := by decide +kernel
theorem dX8_findPairs_84 : decode cX8_findPairs 84 = .ok (.iload 4, 2) := by decide +kernel
theorem dX8_findPairs_86 : decode cX8_findPairs 86 = .ok (.invokevirtual 99, 3) := by decide +kernel
theorem dX8_findPairs_89 : decode cX8_findPairs 89 = .ok (.invokestatic 54, 3) := by decide +kernel
theorem dX8_findPairs_92 : decode cX8_findPairs 92 = .ok (.iastore, 1) := by decide +kernel
theorem dX8_findPairs_93 : decode cX8_findPairs 93 = .ok (.iinc 4 1, 3) := by decide +kernel
theorem dX8_findPairs_96 : decode cX8_findPairs 96 = .ok (.goto (-38), 3) := by decide +kernel
theorem dX8_findPairs_99 : decode cX8_findPairs 99 = .ok (.iinc 2 1, 3) := by decide +kernel
theorem dX8_findPairs_102 : decode cX8_findPairs 102 = .ok (.goto (-90), 3) := by decide +kernel
theorem dX8_findPairs_105 : decode cX8_findPairs 105 = .ok (.aload_n 0, 1) := by decide +kernel
theorem dX8_findPairs_106 : decode cX8_findPairs 106 = .ok (.getfield 15, 3) := by decide +kernel
theorem dX8_findPairs_109 : decode cX8_findPairs 109 = .ok (.iload_n 1, 1) := by decide +kernel
theorem dX8_findPairs_110 : decode cX8_findPairs 110 = .ok (.iconst 1, 1) := by decide +kernel
theorem dX8_findPairs_111 : decode cX8_findPairs 111 = .ok (.isub, 1) := by decide +kernel
theorem dX8_findPairs_112 : decode cX8_findPairs 112 = .ok (.iaload, 1) := by decide +kernel
theorem dX8_findPairs_113 : decode cX8_findPairs 113 = .ok (.ireturn, 1) := by decide +kernel
theorem dX8_firstIn_0 : decode cX8_firstIn 0 = .ok (.iconst 0, 1) := by decide +kernel
theorem dX8_firstIn_1 : decode cX8_firstIn 1 = .ok (.istore_n 2, 1) := by decide +kernel
theorem dX8_firstIn_2 : decode cX8_firstIn 2 = .ok (.iload_n 2, 1) := by decide +kernel
theorem dX8_firstIn_3 : decode cX8_firstIn 3 = .ok (.aload_n 0, 1) := by decide +kernel
theorem dX8_firstIn_4 : decode cX8_firstIn 4 = .ok (.getfield 21, 3) := by decide +kernel
theorem dX8_firstIn_7 : decode cX8_firstIn 7 = .ok (.getfield 90, 3) := by decide +kernel
theorem dX8_firstIn_10 : decode cX8_firstIn 10 = .ok (.if_icmp .ge 20, 3) := by decide +kernel
theorem dX8_firstIn_13 : decode cX8_firstIn 13 = .ok (.iload_n 1, 1) := by decide +kernel
theorem dX8_firstIn_14 : decode cX8_firstIn 14 = .ok (.iload_n 2, 1) := by decide +kernel
theorem dX8_firstIn_15 : decode cX8_firstIn 15 = .ok (.ishr, 1) := by decide +kernel
theorem dX8_firstIn_16 : decode cX8_firstIn 16 = .ok (.iconst 1, 1) := by decide +kernel
theorem dX8_firstIn_17 : decode cX8_firstIn 17 = .ok (.iand, 1) := by decide +kernel
theorem dX8_firstIn_18 : decode cX8_firstIn 18 = .ok (.iconst 1, 1) := by decide +kernel
theorem dX8_firstIn_19 : decode cX8_firstIn 19 = .ok (.if_icmp .ne 5, 3) := by decide +kernel
theorem dX8_firstIn_22 : decode cX8_firstIn 22 = .ok (.iload_n 2, 1) := by decide +kernel
theorem dX8_firstIn_23 : decode cX8_firstIn 23 = .ok (.ireturn, 1) := by decide +kernel
theorem dX8_firstIn_24 : decode cX8_firstIn 24 = .ok (.iinc 2 1, 3) := by decide +kernel
theorem dX8_firstIn_27 : decode cX8_firstIn 27 = .ok (.goto (-25), 3) := by decide +kernel
theorem dX8_firstIn_30 : decode cX8_firstIn 30 = .ok (.iconst (-1), 1) := by decide +kernel
theorem dX8_firstIn_31 : decode cX8_firstIn 31 = .ok (.ireturn, 1) := by decide +kernel
theorem dX8_withPair_0 : decode cX8_withPair 0 = .ok (.iload_n 1, 1) := by decide +kernel
theorem dX8_withPair_1 : decode cX8_withPair 1 = .ok (.iload_n 3, 1) := by decide +kernel
theorem dX8_withPair_2 : decode cX8_withPair 2 = .ok (.ishr, 1) := by decide +kernel
theorem dX8_withPair_3 : decode cX8_withPair 3 = .ok (.iconst 1, 1) := by decide +kernel
theorem dX8_withPair_4 : decode cX8_withPair 4 = .ok (.iand, 1) := by decide +kernel
theorem dX8_withPair_5 : decode cX8_withPair 5 = .ok (.ifCond .ne 5, 3) := by decide +kernel
theorem dX8_withPair_8 : decode cX8_withPair 8 = .ok (.iconst (-1), 1) := by decide +kernel
theorem dX8_withPair_9 : decode cX8_withPair 9 = .ok (.ireturn, 1) := by decide +kernel
theorem dX8_withPair_10 : decode cX8_withPair 10 = .ok (.aload_n 0, 1) := by decide +kernel
theorem dX8_withPair_11 : decode cX8_withPair 11 = .ok (.getfield 21, 3) := by decide +kernel
theorem dX8_withPair_14 : decode cX8_withPair 14 = .ok (.getfield 42, 3) := by decide +kernel
theorem dX8_withPair_17 : decode cX8_withPair 17 = .ok (.iload_n 2, 1) := by decide +kernel
theorem dX8_withPair_18 : decode cX8_withPair 18 = .ok (.iaload, 1) := by decide +kernel
theorem dX8_withPair_19 : decode cX8_withPair 19 = .ok (.aload_n 0, 1) := by decide +kernel
theorem dX8_withPair_20 : decode cX8_withPair 20 = .ok (.getfield 21, 3) := by decide +kernel
theorem dX8_withPair_23 : decode cX8_withPair 23 = .ok (.getfield 42, 3) := by decide +kernel
theorem dX8_withPair_26 : decode cX8_withPair 26 = .ok (.iload_n 3, 1) := by decide +kernel
theorem dX8_withPair_27 : decode cX8_withPair 27 = .ok (.iaload, 1) := by decide +kernel
theorem dX8_withPair_28 : decode cX8_withPair 28 = .ok (.ixor, 1) := by decide +kernel
theorem dX8_withPair_29 : decode cX8_withPair 29 = .ok (.invokestatic 103, 3) := by decide +kernel
theorem dX8_withPair_32 : decode cX8_withPair 32 = .ok (.istore 4, 2) := by decide +kernel
theorem dX8_withPair_34 : decode cX8_withPair 34 = .ok (.iload 4, 2) := by decide +kernel
theorem dX8_withPair_36 : decode cX8_withPair 36 = .ok (.aload_n 0, 1) := by decide +kernel
theorem dX8_withPair_37 : decode cX8_withPair 37 = .ok (.getfield 15, 3) := by decide +kernel
theorem dX8_withPair_40 : decode cX8_withPair 40 = .ok (.iload_n 1, 1) := by decide +kernel
theorem dX8_withPair_41 : decode cX8_withPair 41 = .ok (.iconst 1, 1) := by decide +kernel
theorem dX8_withPair_42 : decode cX8_withPair 42 = .ok (.iload_n 2, 1) := by decide +kernel
theorem dX8_withPair_43 : decode cX8_withPair 43 = .ok (.ishl, 1) := by decide +kernel
theorem dX8_withPair_44 : decode cX8_withPair 44 = .ok (.iconst (-1), 1) := by decide +kernel
theorem dX8_withPair_45 : decode cX8_withPair 45 = .ok (.ixor, 1) := by decide +kernel
theorem dX8_withPair_46 : decode cX8_withPair 46 = .ok (.iand, 1) := by decide +kernel
theorem dX8_withPair_47 : decode cX8_withPair 47 = .ok (.iconst 1, 1) := by decide +kernel
theorem dX8_withPair_48 : decode cX8_withPair 48 = .ok (.iload_n 3, 1) := by decide +kernel
theorem dX8_withPair_49 : decode cX8_withPair 49 = .ok (.ishl, 1) := by decide +kernel
theorem dX8_withPair_50 : decode cX8_withPair 50 = .ok (.iconst (-1), 1) := by decide +kernel
theorem dX8_withPair_51 : decode cX8_withPair 51 = .ok (.ixor, 1) := by decide +kernel
theorem dX8_withPair_52 : decode cX8_withPair 52 = .ok (.iand, 1) := by decide +kernel
theorem dX8_withPair_53 : decode cX8_withPair 53 = .ok (.iaload, 1) := by decide +kernel
theorem dX8_withPair_54 : decode cX8_withPair 54 = .ok (.iadd, 1) := by decide +kernel
theorem dX8_withPair_55 : decode cX8_withPair 55 = .ok (.ireturn, 1) := by decide +kernel
theorem dX8_partnerOf_0 : decode cX8_partnerOf 0 = .ok (.aload_n 0, 1) := by decide +kernel
theorem dX8_partnerOf_1 : decode cX8_partnerOf 1 = .ok (.getfield 18, 3) := by decide +kernel
theorem dX8_partnerOf_4 : decode cX8_partnerOf 4 = .ok (.iconst (-1), 1) := by decide +kernel
theorem dX8_partnerOf_5 : decode cX8_partnerOf 5 = .ok (.invokestatic 84, 3) := by decide +kernel
theorem dX8_partnerOf_8 : decode cX8_partnerOf 8 = .ok (.iconst 1, 1) := by decide +kernel
theorem dX8_partnerOf_9 : decode cX8_partnerOf 9 = .ok (.aload_n 0, 1) := by decide +kernel
theorem dX8_partnerOf_10 : decode cX8_partnerOf 10 = .ok (.getfield 21, 3) := by decide +kernel
theorem dX8_partnerOf_13 : decode cX8_partnerOf 13 = .ok (.getfield 90, 3) := by decide +kernel
theorem dX8_partnerOf_16 : decode cX8_partnerOf 16 = .ok (.ishl, 1) := by decide +kernel
theorem dX8_partnerOf_17 : decode cX8_partnerOf 17 = .ok (.iconst 1, 1) := by decide +kernel
theorem dX8_partnerOf_18 : decode cX8_partnerOf 18 = .ok (.isub, 1) := by decide +kernel
theorem dX8_partnerOf_19 : decode cX8_partnerOf 19 = .ok (.istore_n 2, 1) := by decide +kernel
theorem dX8_partnerOf_20 : decode cX8_partnerOf 20 = .ok (.iconst 0, 1) := by decide +kernel
theorem dX8_partnerOf_21 : decode cX8_partnerOf 21 = .ok (.istore_n 3, 1) := by decide +kernel
theorem dX8_partnerOf_22 : decode cX8_partnerOf 22 = .ok (.iload_n 3, 1) := by decide +kernel
theorem dX8_partnerOf_23 : decode cX8_partnerOf 23 = .ok (.aload_n 0, 1) := by decide +kernel
theorem dX8_partnerOf_24 : decode cX8_partnerOf 24 = .ok (.getfield 21, 3) := by decide +kernel
theorem dX8_partnerOf_27 : decode cX8_partnerOf 27 = .ok (.getfield 90, 3) := by decide +kernel
theorem dX8_partnerOf_30 : decode cX8_partnerOf 30 = .ok (.if_icmp .ge 65, 3) := by decide +kernel
theorem dX8_partnerOf_33 : decode cX8_partnerOf 33 = .ok (.iload_n 2, 1) := by decide +kernel
theorem dX8_partnerOf_34 : decode cX8_partnerOf 34 = .ok (.iload_n 3, 1) := by decide +kernel
theorem dX8_partnerOf_35 : decode cX8_partnerOf 35 = .ok (.ishr, 1) := by decide +kernel
theorem dX8_partnerOf_36 : decode cX8_partnerOf 36 = .ok (.iconst 1, 1) := by decide +kernel
theorem dX8_partnerOf_37 : decode cX8_partnerOf 37 = .ok (.iand, 1) := by decide +kernel
theorem dX8_partnerOf_38 : decode cX8_partnerOf 38 = .ok (.iconst 1, 1) := by decide +kernel
theorem dX8_partnerOf_39 : decode cX8_partnerOf 39 = .ok (.if_icmp .ne 50, 3) := by decide +kernel
theorem dX8_partnerOf_42 : decode cX8_partnerOf 42 = .ok (.aload_n 0, 1) := by decide +kernel
theorem dX8_partnerOf_43 : decode cX8_partnerOf 43 = .ok (.iload_n 2, 1) := by decide +kernel
theorem dX8_partnerOf_44 : decode cX8_partnerOf 44 = .ok (.iload_n 3, 1) := by decide +kernel
theorem dX8_partnerOf_45 : decode cX8_partnerOf 45 = .ok (.invokevirtual 108, 3) := by decide +kernel
theorem dX8_partnerOf_48 : decode cX8_partnerOf 48 = .ok (.istore 4, 2) := by decide +kernel
theorem dX8_partnerOf_50 : decode cX8_partnerOf 50 = .ok (.iload_n 2, 1) := by decide +kernel
theorem dX8_partnerOf_51 : decode cX8_partnerOf 51 = .ok (.iconst 1, 1) := by decide +kernel
theorem dX8_partnerOf_52 : decode cX8_partnerOf 52 = .ok (.iload_n 3, 1) := by decide +kernel
theorem dX8_partnerOf_53 : decode cX8_partnerOf 53 = .ok (.ishl, 1) := by decide +kernel
theorem dX8_partnerOf_54 : decode cX8_partnerOf 54 = .ok (.iconst (-1), 1) := by decide +kernel
theorem dX8_partnerOf_55 : decode cX8_partnerOf 55 = .ok (.ixor, 1) := by decide +kernel
theorem dX8_partnerOf_56 : decode cX8_partnerOf 56 = .ok (.iand, 1) := by decide +kernel
theorem dX8_partnerOf_57 : decode cX8_partnerOf 57 = .ok (.istore_n 2, 1) := by decide +kernel
theorem dX8_partnerOf_58 : decode cX8_partnerOf 58 = .ok (.iload 4, 2) := by decide +kernel
theorem dX8_partnerOf_60 : decode cX8_partnerOf 60 = .ok (.iconst (-1), 1) := by decide +kernel
theorem dX8_partnerOf_61 : decode cX8_partnerOf 61 = .ok (.if_icmp .eq 28, 3) := by decide +kernel
theorem dX8_partnerOf_64 : decode cX8_partnerOf 64 = .ok (.aload_n 0, 1) := by decide +kernel
theorem dX8_partnerOf_65 : decode cX8_partnerOf 65 = .ok (.getfield 18, 3) := by decide +kernel
theorem dX8_partnerOf_68 : decode cX8_partnerOf 68 = .ok (.iload_n 3, 1) := by decide +kernel
theorem dX8_partnerOf_69 : decode cX8_partnerOf 69 = .ok (.iload 4, 2) := by decide +kernel
theorem dX8_partnerOf_71 : decode cX8_partnerOf 71 = .ok (.iastore, 1) := by decide +kernel
theorem dX8_partnerOf_72 : decode cX8_partnerOf 72 = .ok (.aload_n 0, 1) := by decide +kernel
theorem dX8_partnerOf_73 : decode cX8_partnerOf 73 = .ok (.getfield 18, 3) := by decide +kernel
theorem dX8_partnerOf_76 : decode cX8_partnerOf 76 = .ok (.iload 4, 2) := by decide +kernel
theorem dX8_partnerOf_78 : decode cX8_partnerOf 78 = .ok (.iload_n 3, 1) := by decide +kernel
theorem dX8_partnerOf_79 : decode cX8_partnerOf 79 = .ok (.iastore, 1) := by decide +kernel
theorem dX8_partnerOf_80 : decode cX8_partnerOf 80 = .ok (.iload_n 2, 1) := by decide +kernel
theorem dX8_partnerOf_81 : decode cX8_partnerOf 81 = .ok (.iconst 1, 1) := by decide +kernel
theorem dX8_partnerOf_82 : decode cX8_partnerOf 82 = .ok (.iload 4, 2) := by decide +kernel
theorem dX8_partnerOf_84 : decode cX8_partnerOf 84 = .ok (.ishl, 1) := by decide +kernel
theorem dX8_partnerOf_85 : decode cX8_partnerOf 85 = .ok (.iconst (-1), 1) := by decide +kernel
theorem dX8_partnerOf_86 : decode cX8_partnerOf 86 = .ok (.ixor, 1) := by decide +kernel
theorem dX8_partnerOf_87 : decode cX8_partnerOf 87 = .ok (.iand, 1) := by decide +kernel
theorem dX8_partnerOf_88 : decode cX8_partnerOf 88 = .ok (.istore_n 2, 1) := by decide +kernel
theorem dX8_partnerOf_89 : decode cX8_partnerOf 89 = .ok (.iinc 3 1, 3) := by decide +kernel
theorem dX8_partnerOf_92 : decode cX8_partnerOf 92 = .ok (.goto (-70), 3) := by decide +kernel
theorem dX8_partnerOf_95 : decode cX8_partnerOf 95 = .ok (.aload_n 0, 1) := by decide +kernel
theorem dX8_partnerOf_96 : decode cX8_partnerOf 96 = .ok (.getfield 18, 3) := by decide +kernel
theorem dX8_partnerOf_99 : decode cX8_partnerOf 99 = .ok (.iload_n 1, 1) := by decide +kernel
theorem dX8_partnerOf_100 : decode cX8_partnerOf 100 = .ok (.iaload, 1) := by decide +kernel
theorem dX8_partnerOf_101 : decode cX8_partnerOf 101 = .ok (.ireturn, 1) := by decide +kernel
theorem dX8_partnerIn_0 : decode cX8_partnerIn 0 = .ok (.aload_n 0, 1) := by decide +kernel
theorem dX8_partnerIn_1 : decode cX8_partnerIn 1 = .ok (.getfield 15, 3) := by decide +kernel
theorem dX8_partnerIn_4 : decode cX8_partnerIn 4 = .ok (.iload_n 1, 1) := by decide +kernel
theorem dX8_partnerIn_5 : decode cX8_partnerIn 5 = .ok (.iaload, 1) := by decide +kernel
theorem dX8_partnerIn_6 : decode cX8_partnerIn 6 = .ok (.aload_n 0, 1) := by decide +kernel
theorem dX8_partnerIn_7 : decode cX8_partnerIn 7 = .ok (.getfield 15, 3) := by decide +kernel
theorem dX8_partnerIn_10 : decode cX8_partnerIn 10 = .ok (.iload_n 1, 1) := by decide +kernel
theorem dX8_partnerIn_11 : decode cX8_partnerIn 11 = .ok (.iconst 1, 1) := by decide +kernel
theorem dX8_partnerIn_12 : decode cX8_partnerIn 12 = .ok (.iload_n 2, 1) := by decide +kernel
theorem dX8_partnerIn_13 : decode cX8_partnerIn 13 = .ok (.ishl, 1) := by decide +kernel
theorem dX8_partnerIn_14 : decode cX8_partnerIn 14 = .ok (.iconst (-1), 1) := by decide +kernel
theorem dX8_partnerIn_15 : decode cX8_partnerIn 15 = .ok (.ixor, 1) := by decide +kernel
theorem dX8_partnerIn_16 : decode cX8_partnerIn 16 = .ok (.iand, 1) := by decide +kernel
theorem dX8_partnerIn_17 : decode cX8_partnerIn 17 = .ok (.iaload, 1) := by decide +kernel
theorem dX8_partnerIn_18 : decode cX8_partnerIn 18 = .ok (.if_icmp .ne 5, 3) := by decide +kernel
theorem dX8_partnerIn_21 : decode cX8_partnerIn 21 = .ok (.iconst (-1), 1) := by decide +kernel
theorem dX8_partnerIn_22 : decode cX8_partnerIn 22 = .ok (.ireturn, 1) := by decide +kernel
theorem dX8_partnerIn_23 : decode cX8_partnerIn 23 = .ok (.iload_n 2, 1) := by decide +kernel
theorem dX8_partnerIn_24 : decode cX8_partnerIn 24 = .ok (.iconst 1, 1) := by decide +kernel
theorem dX8_partnerIn_25 : decode cX8_partnerIn 25 = .ok (.iadd, 1) := by decide +kernel
theorem dX8_partnerIn_26 : decode cX8_partnerIn 26 = .ok (.istore_n 3, 1) := by decide +kernel
theorem dX8_partnerIn_27 : decode cX8_partnerIn 27 = .ok (.iload_n 3, 1) := by decide +kernel
theorem dX8_partnerIn_28 : decode cX8_partnerIn 28 = .ok (.aload_n 0, 1) := by decide +kernel
theorem dX8_partnerIn_29 : decode cX8_partnerIn 29 = .ok (.getfield 21, 3) := by decide +kernel
theorem dX8_partnerIn_32 : decode cX8_partnerIn 32 = .ok (.getfield 90, 3) := by decide +kernel
theorem dX8_partnerIn_35 : decode cX8_partnerIn 35 = .ok (.if_icmp .ge 27, 3) := by decide +kernel
theorem dX8_partnerIn_38 : decode cX8_partnerIn 38 = .ok (.aload_n 0, 1) := by decide +kernel
theorem dX8_partnerIn_39 : decode cX8_partnerIn 39 = .ok (.getfield 15, 3) := by decide +kernel
theorem dX8_partnerIn_42 : decode cX8_partnerIn 42 = .ok (.iload_n 1, 1) := by decide +kernel
theorem dX8_partnerIn_43 : decode cX8_partnerIn 43 = .ok (.iaload, 1) := by decide +kernel
theorem dX8_partnerIn_44 : decode cX8_partnerIn 44 = .ok (.aload_n 0, 1) := by decide +kernel
theorem dX8_partnerIn_45 : decode cX8_partnerIn 45 = .ok (.iload_n 1, 1) := by decide +kernel
theorem dX8_partnerIn_46 : decode cX8_partnerIn 46 = .ok (.iload_n 2, 1) := by decide +kernel
theorem dX8_partnerIn_47 : decode cX8_partnerIn 47 = .ok (.iload_n 3, 1) := by decide +kernel
theorem dX8_partnerIn_48 : decode cX8_partnerIn 48 = .ok (.invokevirtual 99, 3) := by decide +kernel
theorem dX8_partnerIn_51 : decode cX8_partnerIn 51 = .ok (.if_icmp .ne 5, 3) := by decide +kernel
theorem dX8_partnerIn_54 : decode cX8_partnerIn 54 = .ok (.iload_n 3, 1) := by decide +kernel
theorem dX8_partnerIn_55 : decode cX8_partnerIn 55 = .ok (.ireturn, 1) := by decide +kernel
theorem dX8_partnerIn_56 : decode cX8_partnerIn 56 = .ok (.iinc 3 1, 3) := by decide +kernel
theorem dX8_partnerIn_59 : decode cX8_partnerIn 59 = .ok (.goto (-32), 3) := by decide +kernel
theorem dX8_partnerIn_62 : decode cX8_partnerIn 62 = .ok (.iconst (-1), 1) := by decide +kernel
theorem dX8_partnerIn_63 : decode cX8_partnerIn 63 = .ok (.ireturn, 1) := by decide +kernel
theorem dX8_steadyChoices_0 : decode cX8_steadyChoices 0 = .ok (.iconst 0, 1) := by decide +kernel
theorem dX8_steadyChoices_1 : decode cX8_steadyChoices 1 = .ok (.istore_n 2, 1) := by decide +kernel
theorem dX8_steadyChoices_2 : decode cX8_steadyChoices 2 = .ok (.iconst 0, 1) := by decide +kernel
theorem dX8_steadyChoices_3 : decode cX8_steadyChoices 3 = .ok (.istore_n 3, 1) := by decide +kernel
theorem dX8_steadyChoices_4 : decode cX8_steadyChoices 4 = .ok (.iload_n 3, 1) := by decide +kernel
theorem dX8_steadyChoices_5 : decode cX8_steadyChoices 5 = .ok (.iconst 4, 1) := by decide +kernel
theorem dX8_steadyChoices_6 : decode cX8_steadyChoices 6 = .ok (.if_icmp .ge 73, 3) := by decide +kernel
theorem dX8_steadyChoices_9 : decode cX8_steadyChoices 9 = .ok (.aload_n 0, 1) := by decide +kernel
theorem dX8_steadyChoices_10 : decode cX8_steadyChoices 10 = .ok (.iload_n 1, 1) := by decide +kernel
theorem dX8_steadyChoices_11 : decode cX8_steadyChoices 11 = .ok (.iload_n 3, 1) := by decide +kernel
theorem dX8_steadyChoices_12 : decode cX8_steadyChoices 12 = .ok (.invokevirtual 111, 3) := by decide +kernel
theorem dX8_steadyChoices_15 : decode cX8_steadyChoices 15 = .ok (.aload_n 0, 1) := by decide +kernel
theorem dX8_steadyChoices_16 : decode cX8_steadyChoices 16 = .ok (.iload_n 1, 1) := by decide +kernel
theorem dX8_steadyChoices_17 : decode cX8_steadyChoices 17 = .ok (.iload_n 3, 1) := by decide +kernel
theorem dX8_steadyChoices_18 : decode cX8_steadyChoices 18 = .ok (.iconst 2, 1) := by decide +kernel
theorem dX8_steadyChoices_19 : decode cX8_steadyChoices 19 = .ok (.ixor, 1) := by decide +kernel
theorem dX8_steadyChoices_20 : decode cX8_steadyChoices 20 = .ok (.invokevirtual 111, 3) := by decide +kernel
theorem dX8_steadyChoices_23 : decode cX8_steadyChoices 23 = .ok (.if_icmp .lt 7, 3) := by decide +kernel
theorem dX8_steadyChoices_26 : decode cX8_steadyChoices 26 = .ok (.iconst 1, 1) := by decide +kernel
theorem dX8_steadyChoices_27 : decode cX8_steadyChoices 27 = .ok (.goto 4, 3) := by decide +kernel
theorem dX8_steadyChoices_30 : decode cX8_steadyChoices 30 = .ok (.iconst 0, 1) := by decide +kernel
theorem dX8_steadyChoices_31 : decode cX8_steadyChoices 31 = .ok (.istore 4, 2) := by decide +kernel
theorem dX8_steadyChoices_33 : decode cX8_steadyChoices 33 = .ok (.aload_n 0, 1) := by decide +kernel
theorem dX8_steadyChoices_34 : decode cX8_steadyChoices 34 = .ok (.iload_n 1, 1) := by decide +kernel
theorem dX8_steadyChoices_35 : decode cX8_steadyChoices 35 = .ok (.iload_n 3, 1) := by decide +kernel
theorem dX8_steadyChoices_36 : decode cX8_steadyChoices 36 = .ok (.invokevirtual 114, 3) := by decide +kernel
theorem dX8_steadyChoices_39 : decode cX8_steadyChoices 39 = .ok (.aload_n 0, 1) := by decide +kernel
theorem dX8_steadyChoices_40 : decode cX8_steadyChoices 40 = .ok (.iload_n 1, 1) := by decide +kernel
theorem dX8_steadyChoices_41 : decode cX8_steadyChoices 41 = .ok (.iload_n 3, 1) := by decide +kernel
theorem dX8_steadyChoices_42 : decode cX8_steadyChoices 42 = .ok (.iconst 1, 1) := by decide +kernel
theorem dX8_steadyChoices_43 : decode cX8_steadyChoices 43 = .ok (.ixor, 1) := by decide +kernel
theorem dX8_steadyChoices_44 : decode cX8_steadyChoices 44 = .ok (.invokevirtual 114, 3) := by decide +kernel
theorem dX8_steadyChoices_47 : decode cX8_steadyChoices 47 = .ok (.if_icmp .lt 7, 3) := by decide +kernel
theorem dX8_steadyChoices_50 : decode cX8_steadyChoices 50 = .ok (.iconst 1, 1) := by decide +kernel
theorem dX8_steadyChoices_51 : decode cX8_steadyChoices 51 = .ok (.goto 4, 3) := by decide +kernel
theorem dX8_steadyChoices_54 : decode cX8_steadyChoices 54 = .ok (.iconst 0, 1) := by decide +kernel
theorem dX8_steadyChoices_55 : decode cX8_steadyChoices 55 = .ok (.istore 5, 2) := by decide +kernel
theorem dX8_steadyChoices_57 : decode cX8_steadyChoices 57 = .ok (.iload 4, 2) := by decide +kernel
theorem dX8_steadyChoices_59 : decode cX8_steadyChoices 59 = .ok (.ifCond .eq 14, 3) := by decide +kernel
theorem dX8_steadyChoices_62 : decode cX8_steadyChoices 62 = .ok (.iload 5, 2) := by decide +kernel
theorem dX8_steadyChoices_64 : decode cX8_steadyChoices 64 = .ok (.ifCond .eq 9, 3) := by decide +kernel
theorem dX8_steadyChoices_67 : decode cX8_steadyChoices 67 = .ok (.iload_n 2, 1) := by decide +kernel
theorem dX8_steadyChoices_68 : decode cX8_steadyChoices 68 = .ok (.iconst 1, 1) := by decide +kernel
theorem dX8_steadyChoices_69 : decode cX8_steadyChoices 69 = .ok (.iload_n 3, 1) := by decide +kernel
theorem dX8_steadyChoices_70 : decode cX8_steadyChoices 70 = .ok (.ishl, 1) := by decide +kernel
theorem dX8_steadyChoices_71 : decode cX8_steadyChoices 71 = .ok (.ior, 1) := by decide +kernel
theorem dX8_steadyChoices_72 : decode cX8_steadyChoices 72 = .ok (.istore_n 2, 1) := by decide +kernel
theorem dX8_steadyChoices_73 : decode cX8_steadyChoices 73 = .ok (.iinc 3 1, 3) := by decide +kernel
theorem dX8_steadyChoices_76 : decode cX8_steadyChoices 76 = .ok (.goto (-72), 3) := by decide +kernel
theorem dX8_steadyChoices_79 : decode cX8_steadyChoices 79 = .ok (.iload_n 2, 1) := by decide +kernel
theorem dX8_steadyChoices_80 : decode cX8_steadyChoices 80 = .ok (.ireturn, 1) := by decide +kernel
theorem dX8_gainOf_0 : decode cX8_gainOf 0 = .ok (.iload_n 2, 1) := by decide +kernel
theorem dX8_gainOf_1 : decode cX8_gainOf 1 = .ok (.tableswitch 53 0 2 #[27, 37, 51], 27) := by decide +kernel
theorem dX8_gainOf_28 : decode cX8_gainOf 28 = .ok (.aload_n 0, 1) := by decide +kernel
theorem dX8_gainOf_29 : decode cX8_gainOf 29 = .ok (.getfield 21, 3) := by decide +kernel
theorem dX8_gainOf_32 : decode cX8_gainOf 32 = .ok (.getfield 117, 3) := by decide +kernel
theorem dX8_gainOf_35 : decode cX8_gainOf 35 = .ok (.iload_n 1, 1) := by decide +kernel
theorem dX8_gainOf_36 : decode cX8_gainOf 36 = .ok (.iaload, 1) := by decide +kernel
theorem dX8_gainOf_37 : decode cX8_gainOf 37 = .ok (.ireturn, 1) := by decide +kernel
theorem dX8_gainOf_38 : decode cX8_gainOf 38 = .ok (.aload_n 0, 1) := by decide +kernel
theorem dX8_gainOf_39 : decode cX8_gainOf 39 = .ok (.getfield 21, 3) := by decide +kernel
theorem dX8_gainOf_42 : decode cX8_gainOf 42 = .ok (.getfield 120, 3) := by decide +kernel
theorem dX8_gainOf_45 : decode cX8_gainOf 45 = .ok (.iload_n 1, 1) := by decide +kernel
theorem dX8_gainOf_46 : decode cX8_gainOf 46 = .ok (.iaload, 1) := by decide +kernel
theorem dX8_gainOf_47 : decode cX8_gainOf 47 = .ok (.bipush 10, 2) := by decide +kernel
theorem dX8_gainOf_49 : decode cX8_gainOf 49 = .ok (.idiv, 1) := by decide +kernel
theorem dX8_gainOf_50 : decode cX8_gainOf 50 = .ok (.ineg, 1) := by decide +kernel
theorem dX8_gainOf_51 : decode cX8_gainOf 51 = .ok (.ireturn, 1) := by decide +kernel
theorem dX8_gainOf_52 : decode cX8_gainOf 52 = .ok (.iconst 1, 1) := by decide +kernel
theorem dX8_gainOf_53 : decode cX8_gainOf 53 = .ok (.ireturn, 1) := by decide +kernel
theorem dX8_gainOf_54 : decode cX8_gainOf 54 = .ok (.iconst 4, 1) := by decide +kernel
theorem dX8_gainOf_55 : decode cX8_gainOf 55 = .ok (.ireturn, 1) := by decide +kernel
theorem dX8_speakerGain_0 : decode cX8_speakerGain 0 = .ok (.iload_n 2, 1) := by decide +kernel
theorem dX8_speakerGain_1 : decode cX8_speakerGain 1 = .ok (.tableswitch 42 0 2 #[27, 29, 31], 27) := by decide +kernel
theorem dX8_speakerGain_28 : decode cX8_speakerGain 28 = .ok (.iconst 2, 1) := by decide +kernel
theorem dX8_speakerGain_29 : decode cX8_speakerGain 29 = .ok (.ireturn, 1) := by decide +kernel
theorem dX8_speakerGain_30 : decode cX8_speakerGain 30 = .ok (.iconst 1, 1) := by decide +kernel
theorem dX8_speakerGain_31 : decode cX8_speakerGain 31 = .ok (.ireturn, 1) := by decide +kernel
theorem dX8_speakerGain_32 : decode cX8_speakerGain 32 = .ok (.aload_n 0, 1) := by decide +kernel
theorem dX8_speakerGain_33 : decode cX8_speakerGain 33 = .ok (.getfield 21, 3) := by decide +kernel
theorem dX8_speakerGain_36 : decode cX8_speakerGain 36 = .ok (.getfield 51, 3) := by decide +kernel
theorem dX8_speakerGain_39 : decode cX8_speakerGain 39 = .ok (.iload_n 1, 1) := by decide +kernel
theorem dX8_speakerGain_40 : decode cX8_speakerGain 40 = .ok (.iaload, 1) := by decide +kernel
theorem dX8_speakerGain_41 : decode cX8_speakerGain 41 = .ok (.ineg, 1) := by decide +kernel
theorem dX8_speakerGain_42 : decode cX8_speakerGain 42 = .ok (.ireturn, 1) := by decide +kernel
theorem dX8_speakerGain_43 : decode cX8_speakerGain 43 = .ok (.iconst 3, 1) := by decide +kernel
theorem dX8_speakerGain_44 : decode cX8_speakerGain 44 = .ok (.ireturn, 1) := by decide +kernel
theorem dX9_init_0 : decode cX9_init 0 = .ok (.aload_n 0, 1) := by decide +kernel
theorem dX9_init_1 : decode cX9_init 1 = .ok (.invokespecial 3, 3) := by decide +kernel
theorem dX9_init_4 : decode cX9_init 4 = .ok (.aload_n 0, 1) := by decide +kernel
theorem dX9_init_5 : decode cX9_init 5 = .ok (.bipush 48, 2) := by decide +kernel
theorem dX9_init_7 : decode cX9_init 7 = .ok (.newarray .int, 2) := by decide +kernel
theorem dX9_init_9 : decode cX9_init 9 = .ok (.putfield 9, 3) := by decide +kernel
theorem dX9_init_12 : decode cX9_init 12 = .ok (.aload_n 0, 1) := by decide +kernel
theorem dX9_init_13 : decode cX9_init 13 = .ok (.bipush 8, 2) := by decide +kernel
theorem dX9_init_15 : decode cX9_init 15 = .ok (.newarray .int, 2) := by decide +kernel
theorem dX9_init_17 : decode cX9_init 17 = .ok (.putfield 15, 3) := by decide +kernel
theorem dX9_init_20 : decode cX9_init 20 = .ok (.aload_n 0, 1) := by decide +kernel
theorem dX9_init_21 : decode cX9_init 21 = .ok (.bipush 8, 2) := by decide +kernel
theorem dX9_init_23 : decode cX9_init 23 = .ok (.newarray .int, 2) := by decide +kernel
theorem dX9_init_25 : decode cX9_init 25 = .ok (.putfield 18, 3) := by decide +kernel
theorem dX9_init_28 : decode cX9_init 28 = .ok (.aload_n 0, 1) := by decide +kernel
theorem dX9_init_29 : decode cX9_init 29 = .ok (.bipush 20, 2) := by decide +kernel
theorem dX9_init_31 : decode cX9_init 31 = .ok (.newarray .int, 2) := by decide +kernel
theorem dX9_init_33 : decode cX9_init 33 = .ok (.putfield 21, 3) := by decide +kernel
theorem dX9_init_36 : decode cX9_init 36 = .ok (.aload_n 0, 1) := by decide +kernel
theorem dX9_init_37 : decode cX9_init 37 = .ok (.iconst 5, 1) := by decide +kernel
theorem dX9_init_38 : decode cX9_init 38 = .ok (.newarray .int, 2) := by decide +kernel
theorem dX9_init_40 : decode cX9_init 40 = .ok (.putfield 24, 3) := by decide +kernel
theorem dX9_init_43 : decode cX9_init 43 = .ok (.aload_n 0, 1) := by decide +kernel
theorem dX9_init_44 : decode cX9_init 44 = .ok (.iconst 5, 1) := by decide +kernel
theorem dX9_init_45 : decode cX9_init 45 = .ok (.newarray .int, 2) := by decide +kernel
theorem dX9_init_47 : decode cX9_init 47 = .ok (.putfield 27, 3) := by decide +kernel
theorem dX9_init_50 : decode cX9_init 50 = .ok (.aload_n 0, 1) := by decide +kernel
theorem dX9_init_51 : decode cX9_init 51 = .ok (.iconst 5, 1) := by decide +kernel
theorem dX9_init_52 : decode cX9_init 52 = .ok (.newarray .int, 2) := by decide +kernel
theorem dX9_init_54 : decode cX9_init 54 = .ok (.putfield 30, 3) := by decide +kernel
theorem dX9_init_57 : decode cX9_init 57 = .ok (.aload_n 0, 1) := by decide +kernel
theorem dX9_init_58 : decode cX9_init 58 = .ok (.iconst 5, 1) := by decide +kernel
theorem dX9_init_59 : decode cX9_init 59 = .ok (.newarray .int, 2) := by decide +kernel
theorem dX9_init_61 : decode cX9_init 61 = .ok (.putfield 33, 3) := by decide +kernel
theorem dX9_init_64 : decode cX9_init 64 = .ok (.aload_n 0, 1) := by decide +kernel
theorem dX9_init_65 : decode cX9_init 65 = .ok (.bipush 100, 2) := by decide +kernel
theorem dX9_init_67 : decode cX9_init 67 = .ok (.newarray .int, 2) := by decide +kernel
theorem dX9_init_69 : decode cX9_init 69 = .ok (.putfield 36, 3) := by decide +kernel
theorem dX9_init_72 : decode cX9_init 72 = .ok (.aload_n 0, 1) := by decide +kernel
theorem dX9_init_73 : decode cX9_init 73 = .ok (.iconst 3, 1) := by decide +kernel
theorem dX9_init_74 : decode cX9_init 74 = .ok (.putfield 39, 3) := by decide +kernel
theorem dX9_init_77 : decode cX9_init 77 = .ok (.aload_n 0, 1) := by decide +kernel
theorem dX9_init_78 : decode cX9_init 78 = .ok (.iconst 1, 1) := by decide +kernel
theorem dX9_init_79 : decode cX9_init 79 = .ok (.putfield 43, 3) := by decide +kernel
theorem dX9_init_82 : decode cX9_init 82 = .ok (.aload_n 0, 1) := by decide +kernel
theorem dX9_init_83 : decode cX9_init 83 = .ok (.new 46, 3) := by decide +kernel
theorem dX9_init_86 : decode cX9_init 86 = .ok (.dup, 1) := by decide +kernel
theorem dX9_init_87 : decode cX9_init 87 = .ok (.invokespecial 48, 3) := by decide +kernel
theorem dX9_init_90 : decode cX9_init 90 = .ok (.putfield 49, 3) := by decide +kernel
theorem dX9_init_93 : decode cX9_init 93 = .ok (.return_, 1) := by decide +kernel
theorem dX9_copyFrom_0 : decode cX9_copyFrom 0 = .ok (.aload_n 0, 1) := by decide +kernel
theorem dX9_copyFrom_1 : decode cX9_copyFrom 1 = .ok (.aload_n 1, 1) := by decide +kernel
theorem dX9_copyFrom_2 : decode cX9_copyFrom 2 = .ok (.getfield 53, 3) := by decide +kernel
theorem dX9_copyFrom_5 : decode cX9_copyFrom 5 = .ok (.putfield 53, 3) := by decide +kernel
theorem dX9_copyFrom_8 : decode cX9_copyFrom 8 = .ok (.aload_n 1, 1) := by decide +kernel
theorem dX9_copyFrom_9 : decode cX9_copyFrom 9 = .ok (.getfield 9, 3) := by decide +kernel
theorem dX9_copyFrom_12 : decode cX9_copyFrom 12 = .ok (.iconst 0, 1) := by decide +kernel
theorem dX9_copyFrom_13 : decode cX9_copyFrom 13 = .ok (.aload_n 0, 1) := by decide +kernel
theorem dX9_copyFrom_14 : decode cX9_copyFrom 14 = .ok (.getfield 9, 3) := by decide +kernel
theorem dX9_copyFrom_17 : decode cX9_copyFrom 17 = .ok (.iconst 0, 1) := by decide +kernel
theorem dX9_copyFrom_18 : decode cX9_copyFrom 18 = .ok (.aload_n 0, 1) := by decide +kernel
theorem dX9_copyFrom_19 : decode cX9_copyFrom 19 = .ok (.getfield 9, 3) := by decide +kernel
theorem dX9_copyFrom_22 : decode cX9_copyFrom 22 = .ok (.arraylength, 1) := by decide +kernel
theorem dX9_copyFrom_23 : decode cX9_copyFrom 23 = .ok (.invokestatic 56, 3) := by decide +kernel
theorem dX9_copyFrom_26 : decode cX9_copyFrom 26 = .ok (.aload_n 1, 1) := by decide +kernel
theorem dX9_copyFrom_27 : decode cX9_copyFrom 27 = .ok (.getfield 15, 3) := by decide +kernel
theorem dX9_copyFrom_30 : decode cX9_copyFrom 30 = .ok (.iconst 0, 1) := by decide +kernel
theorem dX9_copyFrom_31 : decode cX9_copyFrom 31 = .ok (.aload_n 0, 1) := by decide +kernel
theorem dX9_copyFrom_32 : decode cX9_copyFrom 32 = .ok (.getfield 15, 3) := by decide +kernel
theorem dX9_copyFrom_35 : decode cX9_copyFrom 35 = .ok (.iconst 0, 1) := by decide +kernel
theorem dX9_copyFrom_36 : decode cX9_copyFrom 36 = .ok (.aload_n 0, 1) := by decide +kernel
theorem dX9_copyFrom_37 : decode cX9_copyFrom 37 = .ok (.getfield 15, 3) := by decide +kernel
theorem dX9_copyFrom_40 : decode cX9_copyFrom 40 = .ok (.arraylength, 1) := by decide +kernel
theorem dX9_copyFrom_41 : decode cX9_copyFrom 41 = .ok (.invokestatic 56, 3) := by decide +kernel
theorem dX9_copyFrom_44 : decode cX9_copyFrom 44 = .ok (.aload_n 1, 1) := by decide +kernel
theorem dX9_copyFrom_45 : decode cX9_copyFrom 45 = .ok (.getfield 18, 3) := by decide +kernel
theorem dX9_copyFrom_48 : decode cX9_copyFrom 48 = .ok (.iconst 0, 1) := by decide +kernel
theorem dX9_copyFrom_49 : decode cX9_copyFrom 49 = .ok (.aload_n 0, 1) := by decide +kernel
theorem dX9_copyFrom_50 : decode cX9_copyFrom 50 = .ok (.getfield 18, 3) := by decide +kernel
theorem dX9_copyFrom_53 : decode cX9_copyFrom 53 = .ok (.iconst 0, 1) := by decide +kernel
theorem dX9_copyFrom_54 : decode cX9_copyFrom 54 = .ok (.aload_n 0, 1) := by decide +kernel
theorem dX9_copyFrom_55 : decode cX9_copyFrom 55 = .ok (.getfield 18, 3) := by decide +kernel
theorem dX9_copyFrom_58 : decode cX9_copyFrom 58 = .ok (.arraylength, 1) := by decide +kernel
theorem dX9_copyFrom_59 : decode cX9_copyFrom 59 = .ok (.invokestatic 56, 3) := by decide +kernel
theorem dX9_copyFrom_62 : decode cX9_copyFrom 62 = .ok (.aload_n 0, 1) := by decide +kernel
theorem dX9_copyFrom_63 : decode cX9_copyFrom 63 = .ok (.aload_n 1, 1) := by decide +kernel
theorem dX9_copyFrom_64 : decode cX9_copyFrom 64 = .ok (.getfield 62, 3) := by decide +kernel
theorem dX9_copyFrom_67 : decode cX9_copyFrom 67 = .ok (.putfield 62, 3) := by decide +kernel
theorem dX9_copyFrom_70 : decode cX9_copyFrom 70 = .ok (.aload_n 1, 1) := by decide +kernel
theorem dX9_copyFrom_71 : decode cX9_copyFrom 71 = .ok (.getfield 21, 3) := by decide +kernel
theorem dX9_copyFrom_74 : decode cX9_copyFrom 74 = .ok (.iconst 0, 1) := by decide +kernel
theorem dX9_copyFrom_75 : decode cX9_copyFrom 75 = .ok (.aload_n 0, 1) := by decide +kernel
theorem dX9_copyFrom_76 : decode cX9_copyFrom 76 = .ok (.getfield 21, 3) := by decide +kernel
theorem dX9_copyFrom_79 : decode cX9_copyFrom 79 = .ok (.iconst 0, 1) := by decide +kernel
theorem dX9_copyFrom_80 : decode cX9_copyFrom 80 = .ok (.aload_n 0, 1) := by decide +kernel
theorem dX9_copyFrom_81 : decode cX9_copyFrom 81 = .ok (.getfield 21, 3) := by decide +kernel
theorem dX9_copyFrom_84 : decode cX9_copyFrom 84 = .ok (.arraylength, 1) := by decide +kernel
theorem dX9_copyFrom_85 : decode cX9_copyFrom 85 = .ok (.invokestatic 56, 3) := by decide +kernel
theorem dX9_copyFrom_88 : decode cX9_copyFrom 88 = .ok (.aload_n 0, 1) := by decide +kernel
theorem dX9_copyFrom_89 : decode cX9_copyFrom 89 = .ok (.aload_n 1, 1) := by decide +kernel
theorem dX9_copyFrom_90 : decode cX9_copyFrom 90 = .ok (.getfield 65, 3) := by decide +kernel
theorem dX9_copyFrom_93 : decode cX9_copyFrom 93 = .ok (.putfield 65, 3) := by decide +kernel
theorem dX9_copyFrom_96 : decode cX9_copyFrom 96 = .ok (.aload_n 0, 1) := by decide +kernel
theorem dX9_copyFrom_97 : decode cX9_copyFrom 97 = .ok (.aload_n 1, 1) := by decide +kernel
theorem dX9_copyFrom_98 : decode cX9_copyFrom 98 = .ok (.getfield 68, 3) := by decide +kernel
theorem dX9_copyFrom_101 : decode cX9_copyFrom 101 = .ok (.putfield 68, 3) := by decide +kernel
theorem dX9_copyFrom_104 : decode cX9_copyFrom 104 = .ok (.aload_n 1, 1) := by decide +kernel
theorem dX9_copyFrom_105 : decode cX9_copyFrom 105 = .ok (.getfield 24, 3) := by decide +kernel
theorem dX9_copyFrom_108 : decode cX9_copyFrom 108 = .ok (.iconst 0, 1) := by decide +kernel
theorem dX9_copyFrom_109 : decode cX9_copyFrom 109 = .ok (.aload_n 0, 1) := by decide +kernel
theorem dX9_copyFrom_110 : decode cX9_copyFrom 110 = .ok (.getfield 24, 3) := by decide +kernel
theorem dX9_copyFrom_113 : decode cX9_copyFrom 113 = .ok (.iconst 0, 1) := by decide +kernel
theorem dX9_copyFrom_114 : decode cX9_copyFrom 114 = .ok (.aload_n 0, 1) := by decide +kernel
theorem dX9_copyFrom_115 : decode cX9_copyFrom 115 = .ok (.getfield 24, 3) := by decide +kernel
theorem dX9_copyFrom_118 : decode cX9_copyFrom 118 = .ok (.arraylength, 1) := by decide +kernel
theorem dX9_copyFrom_119 : decode cX9_copyFrom 119 = .ok (.invokestatic 56, 3) := by decide +kernel
theorem dX9_copyFrom_122 : decode cX9_copyFrom 122 = .ok (.aload_n 1, 1) := by decide +kernel
theorem dX9_copyFrom_123 : decode cX9_copyFrom 123 = .ok (.getfield 27, 3) := by decide +kernel
theorem dX9_copyFrom_126 : decode cX9_copyFrom 126 = .ok (.iconst 0, 1) := by decide +kernel
theorem dX9_copyFrom_127 : decode cX9_copyFrom 127 = .ok (.aload_n 0, 1) := by decide +kernel
theorem dX9_copyFrom_128 : decode cX9_copyFrom 128 = .ok (.getfield 27, 3) := by decide +kernel
theorem dX9_copyFrom_131 : decode cX9_copyFrom 131 = .ok (.iconst 0, 1) := by decide +kernel
theorem dX9_copyFrom_132 : decode cX9_copyFrom 132 = .ok (.aload_n 0, 1) := by decide +kernel
theorem dX9_copyFrom_133 : decode cX9_copyFrom 133 = .ok (.getfield 27, 3) := by decide +kernel
theorem dX9_copyFrom_136 : decode cX9_copyFrom 136 = .ok (.arraylength, 1) := by decide +kernel
theorem dX9_copyFrom_137 : decode cX9_copyFrom 137 = .ok (.invokestatic 56, 3) := by decide +kernel
theorem dX9_copyFrom_140 : decode cX9_copyFrom 140 = .ok (.aload_n 1, 1) := by decide +kernel
theorem dX9_copyFrom_141 : decode cX9_copyFrom 141 = .ok (.getfield 30, 3) := by decide +kernel
theorem dX9_copyFrom_144 : decode cX9_copyFrom 144 = .ok (.iconst 0, 1) := by decide +kernel
theorem dX9_copyFrom_145 : decode cX9_copyFrom 145 = .ok (.aload_n 0, 1) := by decide +kernel
theorem dX9_copyFrom_146 : decode cX9_copyFrom 146 = .ok (.getfield 30, 3) := by decide +kernel
theorem dX9_copyFrom_149 : decode cX9_copyFrom 149 = .ok (.iconst 0, 1) := by decide +kernel
theorem dX9_copyFrom_150 : decode cX9_copyFrom 150 = .ok (.aload_n 0, 1) := by decide +kernel
theorem dX9_copyFrom_151 : decode cX9_copyFrom 151 = .ok (.getfield 30, 3) := by decide +kernel
theorem dX9_copyFrom_154 : decode cX9_copyFrom 154 = .ok (.arraylength, 1) := by decide +kernel
theorem dX9_copyFrom_155 : decode cX9_copyFrom 155 = .ok (.invokestatic 56, 3) := by decide +kernel
theorem dX9_copyFrom_158 : decode cX9_copyFrom 158 = .ok (.aload_n 1, 1) := by decide +kernel
theorem dX9_copyFrom_159 : decode cX9_copyFrom 159 = .ok (.getfield 33, 3) := by decide +kernel
theorem dX9_copyFrom_162 : decode cX9_copyFrom 162 = .ok (.iconst 0, 1) := by decide +kernel
theorem dX9_copyFrom_163 : decode cX9_copyFrom 163 = .ok (.aload_n 0, 1) := by decide +kernel
theorem dX9_copyFrom_164 : decode cX9_copyFrom 164 = .ok (.getfield 33, 3) := by decide +kernel
theorem dX9_copyFrom_167 : decode cX9_copyFrom 167 = .ok (.iconst 0, 1) := by decide +kernel
theorem dX9_copyFrom_168 : decode cX9_copyFrom 168 = .ok (.aload_n 0, 1) := by decide +kernel
theorem dX9_copyFrom_169 : decode cX9_copyFrom 169 = .ok (.getfield 33, 3) := by decide +kernel
theorem dX9_copyFrom_172 : decode cX9_copyFrom 172 = .ok (.arraylength, 1) := by decide +kernel
theorem dX9_copyFrom_173 : decode cX9_copyFrom 173 = .ok (.invokestatic 56, 3) := by decide +kernel
theorem dX9_copyFrom_176 : decode cX9_copyFrom 176 = .ok (.aload_n 1, 1) := by decide +kernel
theorem dX9_copyFrom_177 : decode cX9_copyFrom 177 = .ok (.getfield 36, 3) := by decide +kernel
theorem dX9_copyFrom_180 : decode cX9_copyFrom 180 = .ok (.iconst 0, 1) := by decide +kernel
theorem dX9_copyFrom_181 : decode cX9_copyFrom 181 = .ok (.aload_n 0, 1) := by decide +kernel
theorem dX9_copyFrom_182 : decode cX9_copyFrom 182 = .ok (.getfield 36, 3) := by decide +kernel
theorem dX9_copyFrom_185 : decode cX9_copyFrom 185 = .ok (.iconst 0, 1) := by decide +kernel
theorem dX9_copyFrom_186 : decode cX9_copyFrom 186 = .ok (.aload_n 0, 1) := by decide +kernel
theorem dX9_copyFrom_187 : decode cX9_copyFrom 187 = .ok (.getfield 36, 3) := by decide +kernel
theorem dX9_copyFrom_190 : decode cX9_copyFrom 190 = .ok (.arraylength, 1) := by decide +kernel
theorem dX9_copyFrom_191 : decode cX9_copyFrom 191 = .ok (.invokestatic 56, 3) := by decide +kernel
theorem dX9_copyFrom_194 : decode cX9_copyFrom 194 = .ok (.aload_n 0, 1) := by decide +kernel
theorem dX9_copyFrom_195 : decode cX9_copyFrom 195 = .ok (.aload_n 1, 1) := by decide +kernel
theorem dX9_copyFrom_196 : decode cX9_copyFrom 196 = .ok (.getfield 39, 3) := by decide +kernel
theorem dX9_copyFrom_199 : decode cX9_copyFrom 199 = .ok (.putfield 39, 3) := by decide +kernel
theorem dX9_copyFrom_202 : decode cX9_copyFrom 202 = .ok (.aload_n 0, 1) := by decide +kernel
theorem dX9_copyFrom_203 : decode cX9_copyFrom 203 = .ok (.aload_n 1, 1) := by decide +kernel
theorem dX9_copyFrom_204 : decode cX9_copyFrom 204 = .ok (.getfield 71, 3) := by decide +kernel
theorem dX9_copyFrom_207 : decode cX9_copyFrom 207 = .ok (.putfield 71, 3) := by decide +kernel
theorem dX9_copyFrom_210 : decode cX9_copyFrom 210 = .ok (.aload_n 0, 1) := by decide +kernel
theorem dX9_copyFrom_211 : decode cX9_copyFrom 211 = .ok (.aload_n 1, 1) := by decide +kernel
theorem dX9_copyFrom_212 : decode cX9_copyFrom 212 = .ok (.getfield 74, 3) := by decide +kernel
theorem dX9_copyFrom_215 : decode cX9_copyFrom 215 = .ok (.putfield 74, 3) := by decide +kernel
theorem dX9_copyFrom_218 : decode cX9_copyFrom 218 = .ok (.aload_n 0, 1) := by decide +kernel
theorem dX9_copyFrom_219 : decode cX9_copyFrom 219 = .ok (.aload_n 1, 1) := by decide +kernel
theorem dX9_copyFrom_220 : decode cX9_copyFrom 220 = .ok (.getfield 43, 3) := by decide +kernel
theorem dX9_copyFrom_223 : decode cX9_copyFrom 223 = .ok (.putfield 43, 3) := by decide +kernel
theorem dX9_copyFrom_226 : decode cX9_copyFrom 226 = .ok (.aload_n 0, 1) := by decide +kernel
theorem dX9_copyFrom_227 : decode cX9_copyFrom 227 = .ok (.aload_n 1, 1) := by decide +kernel
theorem dX9_copyFrom_228 : decode cX9_copyFrom 228 = .ok (.getfield 77, 3) := by decide +kernel
theorem dX9_copyFrom_231 : decode cX9_copyFrom 231 = .ok (.putfield 77, 3) := by decide +kernel
theorem dX9_copyFrom_234 : decode cX9_copyFrom 234 = .ok (.aload_n 0, 1) := by decide +kernel
theorem dX9_copyFrom_235 : decode cX9_copyFrom 235 = .ok (.aload_n 1, 1) := by decide +kernel
theorem dX9_copyFrom_236 : decode cX9_copyFrom 236 = .ok (.getfield 80, 3) := by decide +kernel
theorem dX9_copyFrom_239 : decode cX9_copyFrom 239 = .ok (.putfield 80, 3) := by decide +kernel
theorem dX9_copyFrom_242 : decode cX9_copyFrom 242 = .ok (.aload_n 0, 1) := by decide +kernel
theorem dX9_copyFrom_243 : decode cX9_copyFrom 243 = .ok (.getfield 49, 3) := by decide +kernel
theorem dX9_copyFrom_246 : decode cX9_copyFrom 246 = .ok (.aload_n 1, 1) := by decide +kernel
theorem dX9_copyFrom_247 : decode cX9_copyFrom 247 = .ok (.getfield 49, 3) := by decide +kernel
theorem dX9_copyFrom_250 : decode cX9_copyFrom 250 = .ok (.invokevirtual 84, 3) := by decide +kernel
theorem dX9_copyFrom_253 : decode cX9_copyFrom 253 = .ok (.return_, 1) := by decide +kernel
theorem dX9_letterAt_0 : decode cX9_letterAt 0 = .ok (.iload_n 2, 1) := by decide +kernel
theorem dX9_letterAt_1 : decode cX9_letterAt 1 = .ok (.ifCond .lt 13, 3) := by decide +kernel
theorem dX9_letterAt_4 : decode cX9_letterAt 4 = .ok (.iload_n 2, 1) := by decide +kernel
theorem dX9_letterAt_5 : decode cX9_letterAt 5 = .ok (.aload_n 0, 1) := by decide +kernel
theorem dX9_letterAt_6 : decode cX9_letterAt 6 = .ok (.getfield 15, 3) := by decide +kernel
theorem dX9_letterAt_9 : decode cX9_letterAt 9 = .ok (.iload_n 1, 1) := by decide +kernel
theorem dX9_letterAt_10 : decode cX9_letterAt 10 = .ok (.iaload, 1) := by decide +kernel
theorem dX9_letterAt_11 : decode cX9_letterAt 11 = .ok (.if_icmp .lt 7, 3) := by decide +kernel
theorem dX9_letterAt_14 : decode cX9_letterAt 14 = .ok (.iconst (-1), 1) := by decide +kernel
theorem dX9_letterAt_15 : decode cX9_letterAt 15 = .ok (.goto 14, 3) := by decide +kernel
theorem dX9_letterAt_18 : decode cX9_letterAt 18 = .ok (.aload_n 0, 1) := by decide +kernel
theorem dX9_letterAt_19 : decode cX9_letterAt 19 = .ok (.getfield 9, 3) := by decide +kernel
theorem dX9_letterAt_22 : decode cX9_letterAt 22 = .ok (.iload_n 1, 1) := by decide +kernel
theorem dX9_letterAt_23 : decode cX9_letterAt 23 = .ok (.bipush 6, 2) := by decide +kernel
theorem dX9_letterAt_25 : decode cX9_letterAt 25 = .ok (.imul, 1) := by decide +kernel
theorem dX9_letterAt_26 : decode cX9_letterAt 26 = .ok (.iload_n 2, 1) := by decide +kernel
theorem dX9_letterAt_27 : decode cX9_letterAt 27 = .ok (.iadd, 1) := by decide +kernel
theorem dX9_letterAt_28 : decode cX9_letterAt 28 = .ok (.iaload, 1) := by decide +kernel
theorem dX9_letterAt_29 : decode cX9_letterAt 29 = .ok (.ireturn, 1) := by decide +kernel
theorem dX9_strokesOf_0 : decode cX9_strokesOf 0 = .ok (.iconst 0, 1) := by decide +kernel
theorem dX9_strokesOf_1 : decode cX9_strokesOf 1 = .ok (.istore_n 3, 1) := by decide +kernel
theorem dX9_strokesOf_2 : decode cX9_strokesOf 2 = .ok (.iconst 0, 1) := by decide +kernel
theorem dX9_strokesOf_3 : decode cX9_strokesOf 3 = .ok (.istore 4, 2) := by decide +kernel
theorem dX9_strokesOf_5 : decode cX9_strokesOf 5 = .ok (.iload 4, 2) := by decide +kernel
theorem dX9_strokesOf_7 : decode cX9_strokesOf 7 = .ok (.aload_n 0, 1) := by decide +kernel
theorem dX9_strokesOf_8 : decode cX9_strokesOf 8 = .ok (.getfield 15, 3) := by decide +kernel
theorem dX9_strokesOf_11 : decode cX9_strokesOf 11 = .ok (.iload_n 1, 1) := by decide +kernel
theorem dX9_strokesOf_12 : decode cX9_strokesOf 12 = .ok (.iaload, 1) := by decide +kernel
theorem dX9_strokesOf_13 : decode cX9_strokesOf 13 = .ok (.if_icmp .ge 31, 3) := by decide +kernel
theorem dX9_strokesOf_16 : decode cX9_strokesOf 16 = .ok (.iload_n 2, 1) := by decide +kernel
theorem dX9_strokesOf_17 : decode cX9_strokesOf 17 = .ok (.aload_n 0, 1) := by decide +kernel
theorem dX9_strokesOf_18 : decode cX9_strokesOf 18 = .ok (.getfield 9, 3) := by decide +kernel
theorem dX9_strokesOf_21 : decode cX9_strokesOf 21 = .ok (.iload_n 1, 1) := by decide +kernel
theorem dX9_strokesOf_22 : decode cX9_strokesOf 22 = .ok (.bipush 6, 2) := by decide +kernel
theorem dX9_strokesOf_24 : decode cX9_strokesOf 24 = .ok (.imul, 1) := by decide +kernel
theorem dX9_strokesOf_25 : decode cX9_strokesOf 25 = .ok (.iload 4, 2) := by decide +kernel
theorem dX9_strokesOf_27 : decode cX9_strokesOf 27 = .ok (.iadd, 1) := by decide +kernel
theorem dX9_strokesOf_28 : decode cX9_strokesOf 28 = .ok (.iaload, 1) := by decide +kernel
theorem dX9_strokesOf_29 : decode cX9_strokesOf 29 = .ok (.ishr, 1) := by decide +kernel
theorem dX9_strokesOf_30 : decode cX9_strokesOf 30 = .ok (.iconst 1, 1) := by decide +kernel
theorem dX9_strokesOf_31 : decode cX9_strokesOf 31 = .ok (.iand, 1) := by decide +kernel
theorem dX9_strokesOf_32 : decode cX9_strokesOf 32 = .ok (.ifCond .ne 6, 3) := by decide +kernel
theorem dX9_strokesOf_35 : decode cX9_strokesOf 35 = .ok (.iinc 3 1, 3) := by decide +kernel
theorem dX9_strokesOf_38 : decode cX9_strokesOf 38 = .ok (.iinc 4 1, 3) := by decide +kernel
theorem dX9_strokesOf_41 : decode cX9_strokesOf 41 = .ok (.goto (-36), 3) := by decide +kernel
theorem dX9_strokesOf_44 : decode cX9_strokesOf 44 = .ok (.iload_n 3, 1) := by decide +kernel
theorem dX9_strokesOf_45 : decode cX9_strokesOf 45 = .ok (.ireturn, 1) := by decide +kernel
theorem dX9_onPage_0 : decode cX9_onPage 0 = .ok (.aload_n 0, 1) := by decide +kernel
theorem dX9_onPage_1 : decode cX9_onPage 1 = .ok (.getfield 36, 3) := by decide +kernel
theorem dX9_onPage_4 : decode cX9_onPage 4 = .ok (.iload_n 1, 1) := by decide +kernel
theorem dX9_onPage_5 : decode cX9_onPage 5 = .ok (.bipush 20, 2) := by decide +kernel
theorem dX9_onPage_7 : decode cX9_onPage 7 = .ok (.imul, 1) := by decide +kernel
theorem dX9_onPage_8 : decode cX9_onPage 8 = .ok (.iload_n 2, 1) := by decide +kernel
theorem dX9_onPage_9 : decode cX9_onPage 9 = .ok (.iadd, 1) := by decide +kernel
theorem dX9_onPage_10 : decode cX9_onPage 10 = .ok (.iaload, 1) := by decide +kernel
theorem dX9_onPage_11 : decode cX9_onPage 11 = .ok (.ireturn, 1) := by decide +kernel
theorem dX9_onPageOf_0 : decode cX9_onPageOf 0 = .ok (.iconst 0, 1) := by decide +kernel
theorem dX9_onPageOf_1 : decode cX9_onPageOf 1 = .ok (.istore_n 3, 1) := by decide +kernel
theorem dX9_onPageOf_2 : decode cX9_onPageOf 2 = .ok (.iconst 0, 1) := by decide +kernel
theorem dX9_onPageOf_3 : decode cX9_onPageOf 3 = .ok (.istore 4, 2) := by decide +kernel
theorem dX9_onPageOf_5 : decode cX9_onPageOf 5 = .ok (.iload 4, 2) := by decide +kernel
theorem dX9_onPageOf_7 : decode cX9_onPageOf 7 = .ok (.aload_n 0, 1) := by decide +kernel
theorem dX9_onPageOf_8 : decode cX9_onPageOf 8 = .ok (.getfield 65, 3) := by decide +kernel
theorem dX9_onPageOf_11 : decode cX9_onPageOf 11 = .ok (.if_icmp .ge 23, 3) := by decide +kernel
theorem dX9_onPageOf_14 : decode cX9_onPageOf 14 = .ok (.aload_n 0, 1) := by decide +kernel
theorem dX9_onPageOf_15 : decode cX9_onPageOf 15 = .ok (.iload_n 1, 1) := by decide +kernel
theorem dX9_onPageOf_16 : decode cX9_onPageOf 16 = .ok (.iload 4, 2) := by decide +kernel
theorem dX9_onPageOf_18 : decode cX9_onPageOf 18 = .ok (.invokevirtual 88, 3) := by decide +kernel
theorem dX9_onPageOf_21 : decode cX9_onPageOf 21 = .ok (.iload_n 2, 1) := by decide +kernel
theorem dX9_onPageOf_22 : decode cX9_onPageOf 22 = .ok (.if_icmp .ne 6, 3) := by decide +kernel
theorem dX9_onPageOf_25 : decode cX9_onPageOf 25 = .ok (.iinc 3 1, 3) := by decide +kernel
theorem dX9_onPageOf_28 : decode cX9_onPageOf 28 = .ok (.iinc 4 1, 3) := by decide +kernel
theorem dX9_onPageOf_31 : decode cX9_onPageOf 31 = .ok (.goto (-26), 3) := by decide +kernel
theorem dX9_onPageOf_34 : decode cX9_onPageOf 34 = .ok (.iload_n 3, 1) := by decide +kernel
theorem dX9_onPageOf_35 : decode cX9_onPageOf 35 = .ok (.ireturn, 1) := by decide +kernel
theorem dX9_onAllPages_0 : decode cX9_onAllPages 0 = .ok (.iconst 0, 1) := by decide +kernel
theorem dX9_onAllPages_1 : decode cX9_onAllPages 1 = .ok (.istore_n 2, 1) := by decide +kernel
theorem dX9_onAllPages_2 : decode cX9_onAllPages 2 = .ok (.iconst 0, 1) := by decide +kernel
theorem dX9_onAllPages_3 : decode cX9_onAllPages 3 = .ok (.istore_n 3, 1) := by decide +kernel
theorem dX9_onAllPages_4 : decode cX9_onAllPages 4 = .ok (.iload_n 3, 1) := by decide +kernel
theorem dX9_onAllPages_5 : decode cX9_onAllPages 5 = .ok (.aload_n 0, 1) := by decide +kernel
theorem dX9_onAllPages_6 : decode cX9_onAllPages 6 = .ok (.getfield 68, 3) := by decide +kernel
theorem dX9_onAllPages_9 : decode cX9_onAllPages 9 = .ok (.if_icmp .ge 18, 3) := by decide +kernel
theorem dX9_onAllPages_12 : decode cX9_onAllPages 12 = .ok (.iload_n 2, 1) := by decide +kernel
theorem dX9_onAllPages_13 : decode cX9_onAllPages 13 = .ok (.aload_n 0, 1) := by decide +kernel
theorem dX9_onAllPages_14 : decode cX9_onAllPages 14 = .ok (.iload_n 3, 1) := by decide +kernel
theorem dX9_onAllPages_15 : decode cX9_onAllPages 15 = .ok (.iload_n 1, 1) := by decide +kernel
theorem dX9_onAllPages_16 : decode cX9_onAllPages 16 = .ok (.invokevirtual 92, 3) := by decide +kernel
theorem dX9_onAllPages_19 : decode cX9_onAllPages 19 = .ok (.iadd, 1) := by decide +kernel
theorem dX9_onAllPages_20 : decode cX9_onAllPages 20 = .ok (.istore_n 2, 1) := by decide +kernel
theorem dX9_onAllPages_21 : decode cX9_onAllPages 21 = .ok (.iinc 3 1, 3) := by decide +kernel
theorem dX9_onAllPages_24 : decode cX9_onAllPages 24 = .ok (.goto (-20), 3) := by decide +kernel
theorem dX9_onAllPages_27 : decode cX9_onAllPages 27 = .ok (.iload_n 2, 1) := by decide +kernel
theorem dX9_onAllPages_28 : decode cX9_onAllPages 28 = .ok (.ireturn, 1) := by decide +kernel
theorem dX9_tiredTogether_0 : decode cX9_tiredTogether 0 = .ok (.iconst 0, 1) := by decide +kernel
theorem dX9_tiredTogether_1 : decode cX9_tiredTogether 1 = .ok (.istore_n 1, 1) := by decide +kernel
theorem dX9_tiredTogether_2 : decode cX9_tiredTogether 2 = .ok (.iconst 0, 1) := by decide +kernel
theorem dX9_tiredTogether_3 : decode cX9_tiredTogether 3 = .ok (.istore_n 2, 1) := by decide +kernel
theorem dX9_tiredTogether_4 : decode cX9_tiredTogether 4 = .ok (.iload_n 2, 1) := by decide +kernel
theorem dX9_tiredTogether_5 : decode cX9_tiredTogether 5 = .ok (.aload_n 0, 1) := by decide +kernel
theorem dX9_tiredTogether_6 : decode cX9_tiredTogether 6 = .ok (.getfield 68, 3) := by decide +kernel
theorem dX9_tiredTogether_9 : decode cX9_tiredTogether 9 = .ok (.if_icmp .ge 18, 3) := by decide +kernel
theorem dX9_tiredTogether_12 : decode cX9_tiredTogether 12 = .ok (.iload_n 1, 1) := by decide +kernel
theorem dX9_tiredTogether_13 : decode cX9_tiredTogether 13 = .ok (.aload_n 0, 1) := by decide +kernel
theorem dX9_tiredTogether_14 : decode cX9_tiredTogether 14 = .ok (.getfield 33, 3) := by decide +kernel
theorem dX9_tiredTogether_17 : decode cX9_tiredTogether 17 = .ok (.iload_n 2, 1) := by decide +kernel
theorem dX9_tiredTogether_18 : decode cX9_tiredTogether 18 = .ok (.iaload, 1) := by decide +kernel
theorem dX9_tiredTogether_19 : decode cX9_tiredTogether 19 = .ok (.iadd, 1) := by decide +kernel
theorem dX9_tiredTogether_20 : decode cX9_tiredTogether 20 = .ok (.istore_n 1, 1) := by decide +kernel
theorem dX9_tiredTogether_21 : decode cX9_tiredTogether 21 = .ok (.iinc 2 1, 3) := by decide +kernel
theorem dX9_tiredTogether_24 : decode cX9_tiredTogether 24 = .ok (.goto (-20), 3) := by decide +kernel
theorem dX9_tiredTogether_27 : decode cX9_tiredTogether 27 = .ok (.iload_n 1, 1) := by decide +kernel
theorem dX9_tiredTogether_28 : decode cX9_tiredTogether 28 = .ok (.ireturn, 1) := by decide +kernel
theorem dX9_draw_0 : decode cX9_draw 0 = .ok (.aload_n 0, 1) := by decide +kernel
theorem dX9_draw_1 : decode cX9_draw 1 = .ok (.ldc 95, 2) := by decide +kernel
theorem dX9_draw_3 : decode cX9_draw 3 = .ok (.aload_n 0, 1) := by decide +kernel
theorem dX9_draw_4 : decode cX9_draw 4 = .ok (.getfield 43, 3) := by decide +kernel
theorem dX9_draw_7 : decode cX9_draw 7 = .ok (.imul, 1) := by decide +kernel
theorem dX9_draw_8 : decode cX9_draw 8 = .ok (.sipush 12345, 3) := by decide +kernel
theorem dX9_draw_11 : decode cX9_draw 11 = .ok (.iadd, 1) := by decide +kernel
theorem dX9_draw_12 : decode cX9_draw 12 = .ok (.putfield 43, 3) := by decide +kernel
theorem dX9_draw_15 : decode cX9_draw 15 = .ok (.aload_n 0, 1) := by decide +kernel
theorem dX9_draw_16 : decode cX9_draw 16 = .ok (.getfield 43, 3) := by decide +kernel
theorem dX9_draw_19 : decode cX9_draw 19 = .ok (.bipush 16, 2) := by decide +kernel
theorem dX9_draw_21 : decode cX9_draw 21 = .ok (.iushr, 1) := by decide +kernel
theorem dX9_draw_22 : decode cX9_draw 22 = .ok (.sipush 32767, 3) := by decide +kernel
theorem dX9_draw_25 : decode cX9_draw 25 = .ok (.iand, 1) := by decide +kernel
theorem dX9_draw_26 : decode cX9_draw 26 = .ok (.ireturn, 1) := by decide +kernel
theorem dX10_init_0 : decode cX10_init 0 = .ok (.aload_n 0, 1) := by decide +kernel
theorem dX10_init_1 : decode cX10_init 1 = .ok (.invokespecial 3, 3) := by decide +kernel
theorem dX10_init_4 : decode cX10_init 4 = .ok (.aload_n 0, 1) := by decide +kernel
theorem dX10_init_5 : decode cX10_init 5 = .ok (.sipush 400, 3) := by decide +kernel
theorem dX10_init_8 : decode cX10_init 8 = .ok (.newarray .int, 2) := by decide +kernel
theorem dX10_init_10 : decode cX10_init 10 = .ok (.putfield 11, 3) := by decide +kernel
theorem dX10_init_13 : decode cX10_init 13 = .ok (.aload_n 0, 1) := by decide +kernel
theorem dX10_init_14 : decode cX10_init 14 = .ok (.iconst (-1), 1) := by decide +kernel
theorem dX10_init_15 : decode cX10_init 15 = .ok (.putfield 15, 3) := by decide +kernel
theorem dX10_init_18 : decode cX10_init 18 = .ok (.return_, 1) := by decide +kernel
theorem dX10_addNumber_0 : decode cX10_addNumber 0 = .ok (.bipush 24, 2) := by decide +kernel
theorem dX10_addNumber_2 : decode cX10_addNumber 2 = .ok (.istore_n 2, 1) := by decide +kernel
theorem dX10_addNumber_3 : decode cX10_addNumber 3 = .ok (.iload_n 2, 1) := by decide +kernel
theorem dX10_addNumber_4 : decode cX10_addNumber 4 = .ok (.ifCond .lt 45, 3) := by decide +kernel
theorem dX10_addNumber_7 : decode cX10_addNumber 7 = .ok (.aload_n 0, 1) := by decide +kernel
theorem dX10_addNumber_8 : decode cX10_addNumber 8 = .ok (.getfield 19, 3) := by decide +kernel
theorem dX10_addNumber_11 : decode cX10_addNumber 11 = .ok (.sipush 400, 3) := by decide +kernel
theorem dX10_addNumber_14 : decode cX10_addNumber 14 = .ok (.if_icmp .ge 29, 3) := by decide +kernel
theorem dX10_addNumber_17 : decode cX10_addNumber 17 = .ok (.aload_n 0, 1) := by decide +kernel
theorem dX10_addNumber_18 : decode cX10_addNumber 18 = .ok (.getfield 11, 3) := by decide +kernel
theorem dX10_addNumber_21 : decode cX10_addNumber 21 = .ok (.aload_n 0, 1) := by decide +kernel
theorem dX10_addNumber_22 : decode cX10_addNumber 22 = .ok (.getfield 19, 3) := by decide +kernel
theorem dX10_addNumber_25 : decode cX10_addNumber 25 = .ok (.iload_n 1, 1) := by decide +kernel
theorem dX10_addNumber_26 : decode cX10_addNumber 26 = .ok (.iload_n 2, 1) := by decide +kernel
theorem dX10_addNumber_27 : decode cX10_addNumber 27 = .ok (.iushr, 1) := by decide +kernel
theorem dX10_addNumber_28 : decode cX10_addNumber 28 = .ok (.sipush 255, 3) := by decide +kernel
theorem dX10_addNumber_31 : decode cX10_addNumber 31 = .ok (.iand, 1) := by decide +kernel
theorem dX10_addNumber_32 : decode cX10_addNumber 32 = .ok (.iastore, 1) := by decide +kernel
theorem dX10_addNumber_33 : decode cX10_addNumber 33 = .ok (.aload_n 0, 1) := by decide +kernel
theorem dX10_addNumber_34 : decode cX10_addNumber 34 = .ok (.dup, 1) := by decide +kernel
theorem dX10_addNumber_35 : decode cX10_addNumber 35 = .ok (.getfield 19, 3) := by decide +kernel
theorem dX10_addNumber_38 : decode cX10_addNumber 38 = .ok (.iconst 1, 1) := by decide +kernel
theorem dX10_addNumber_39 : decode cX10_addNumber 39 = .ok (.iadd, 1) := by decide +kernel
theorem dX10_addNumber_40 : decode cX10_addNumber 40 = .ok (.putfield 19, 3) := by decide +kernel
theorem dX10_addNumber_43 : decode cX10_addNumber 43 = .ok (.iinc 2 (-8), 3) := by decide +kernel
theorem dX10_addNumber_46 : decode cX10_addNumber 46 = .ok (.goto (-43), 3) := by decide +kernel
theorem dX10_addNumber_49 : decode cX10_addNumber 49 = .ok (.return_, 1) := by decide +kernel
theorem dX10_open_0 : decode cX10_open 0 = .ok (.aload_n 0, 1) := by decide +kernel
theorem dX10_open_1 : decode cX10_open 1 = .ok (.aload_n 0, 1) := by decide +kernel
theorem dX10_open_2 : decode cX10_open 2 = .ok (.getfield 19, 3) := by decide +kernel
theorem dX10_open_5 : decode cX10_open 5 = .ok (.putfield 22, 3) := by decide +kernel
theorem dX10_open_8 : decode cX10_open 8 = .ok (.aload_n 0, 1) := by decide +kernel
theorem dX10_open_9 : decode cX10_open 9 = .ok (.iconst 0, 1) := by decide +kernel
theorem dX10_open_10 : decode cX10_open 10 = .ok (.putfield 19, 3) := by decide +kernel
theorem dX10_open_13 : decode cX10_open 13 = .ok (.aload_n 0, 1) := by decide +kernel
theorem dX10_open_14 : decode cX10_open 14 = .ok (.iconst 0, 1) := by decide +kernel
theorem dX10_open_15 : decode cX10_open 15 = .ok (.putfield 25, 3) := by decide +kernel
theorem dX10_open_18 : decode cX10_open 18 = .ok (.aload_n 0, 1) := by decide +kernel
theorem dX10_open_19 : decode cX10_open 19 = .ok (.iconst (-1), 1) := by decide +kernel
theorem dX10_open_20 : decode cX10_open 20 = .ok (.putfield 15, 3) := by decide +kernel
theorem dX10_open_23 : decode cX10_open 23 = .ok (.aload_n 0, 1) := by decide +kernel
theorem dX10_open_24 : decode cX10_open 24 = .ok (.invokevirtual 28, 3) := by decide +kernel
theorem dX10_open_27 : decode cX10_open 27 = .ok (.return_, 1) := by decide +kernel
theorem dX10_step_0 : decode cX10_step 0 = .ok (.aload_n 0, 1) := by decide +kernel
theorem dX10_step_1 : decode cX10_step 1 = .ok (.getfield 25, 3) := by decide +kernel
theorem dX10_step_4 : decode cX10_step 4 = .ok (.istore_n 1, 1) := by decide +kernel
theorem dX10_step_5 : decode cX10_step 5 = .ok (.iload_n 1, 1) := by decide +kernel
theorem dX10_step_6 : decode cX10_step 6 = .ok (.aload_n 0, 1) := by decide +kernel
theorem dX10_step_7 : decode cX10_step 7 = .ok (.getfield 22, 3) := by decide +kernel
theorem dX10_step_10 : decode cX10_step 10 = .ok (.if_icmp .ge 20, 3) := by decide +kernel
theorem dX10_step_13 : decode cX10_step 13 = .ok (.aload_n 0, 1) := by decide +kernel
theorem dX10_step_14 : decode cX10_step 14 = .ok (.getfield 11, 3) := by decide +kernel
theorem dX10_step_17 : decode cX10_step 17 = .ok (.iload_n 1, 1) := by decide +kernel
theorem dX10_step_18 : decode cX10_step 18 = .ok (.iaload, 1) := by decide +kernel
theorem dX10_step_19 : decode cX10_step 19 = .ok (.bipush 32, 2) := by decide +kernel
theorem dX10_step_21 : decode cX10_step 21 = .ok (.if_icmp .ne 9, 3) := by decide +kernel
theorem dX10_step_24 : decode cX10_step 24 = .ok (.iinc 1 1, 3) := by decide +kernel
theorem dX10_step_27 : decode cX10_step 27 = .ok (.goto (-22), 3) := by decide +kernel
theorem dX10_step_30 : decode cX10_step 30 = .ok (.aload_n 0, 1) := by decide +kernel
theorem dX10_step_31 : decode cX10_step 31 = .ok (.iload_n 1, 1) := by decide +kernel
theorem dX10_step_32 : decode cX10_step 32 = .ok (.putfield 31, 3) := by decide +kernel
theorem dX10_step_35 : decode cX10_step 35 = .ok (.aload_n 0, 1) := by decide +kernel
theorem dX10_step_36 : decode cX10_step 36 = .ok (.iconst 0, 1) := by decide +kernel
theorem dX10_step_37 : decode cX10_step 37 = .ok (.putfield 34, 3) := by decide +kernel
theorem dX10_step_40 : decode cX10_step 40 = .ok (.iload_n 1, 1) := by decide +kernel
theorem dX10_step_41 : decode cX10_step 41 = .ok (.aload_n 0, 1) := by decide +kernel
theorem dX10_step_42 : decode cX10_step 42 = .ok (.getfield 22, 3) := by decide +kernel
theorem dX10_step_45 : decode cX10_step 45 = .ok (.if_icmp .lt 11, 3) := by decide +kernel
theorem dX10_step_48 : decode cX10_step 48 = .ok (.aload_n 0, 1) := by decide +kernel
theorem dX10_step_49 : decode cX10_step 49 = .ok (.iconst 0, 1) := by decide +kernel
theorem dX10_step_50 : decode cX10_step 50 = .ok (.putfield 37, 3) := by decide +kernel
theorem dX10_step_53 : decode cX10_step 53 = .ok (.goto 182, 3) := by decide +kernel
theorem dX10_step_56 : decode cX10_step 56 = .ok (.aload_n 0, 1) := by decide +kernel
theorem dX10_step_57 : decode cX10_step 57 = .ok (.getfield 11, 3) := by decide +kernel
theorem dX10_step_60 : decode cX10_step 60 = .ok (.iload_n 1, 1) := by decide +kernel
theorem dX10_step_61 : decode cX10_step 61 = .ok (.iaload, 1) := by decide +kernel
theorem dX10_step_62 : decode cX10_step 62 = .ok (.bipush 97, 2) := by decide +kernel
theorem dX10_step_64 : decode cX10_step 64 = .ok (.if_icmp .lt 55, 3) := by decide +kernel
theorem dX10_step_67 : decode cX10_step 67 = .ok (.aload_n 0, 1) := by decide +kernel
theorem dX10_step_68 : decode cX10_step 68 = .ok (.getfield 11, 3) := by decide +kernel
theorem dX10_step_71 : decode cX10_step 71 = .ok (.iload_n 1, 1) := by decide +kernel
theorem dX10_step_72 : decode cX10_step 72 = .ok (.iaload, 1) := by decide +kernel
theorem dX10_step_73 : decode cX10_step 73 = .ok (.bipush 122, 2) := by decide +kernel
theorem dX10_step_75 : decode cX10_step 75 = .ok (.if_icmp .gt 44, 3) := by decide +kernel
theorem dX10_step_78 : decode cX10_step 78 = .ok (.aload_n 0, 1) := by decide +kernel
theorem dX10_step_79 : decode cX10_step 79 = .ok (.iconst 1, 1) := by decide +kernel
theorem dX10_step_80 : decode cX10_step 80 = .ok (.putfield 37, 3) := by decide +kernel
theorem dX10_step_83 : decode cX10_step 83 = .ok (.iload_n 1, 1) := by decide +kernel
theorem dX10_step_84 : decode cX10_step 84 = .ok (.aload_n 0, 1) := by decide +kernel
theorem dX10_step_85 : decode cX10_step 85 = .ok (.getfield 22, 3) := by decide +kernel
theorem dX10_step_88 : decode cX10_step 88 = .ok (.if_icmp .ge 147, 3) := by decide +kernel
theorem dX10_step_91 : decode cX10_step 91 = .ok (.aload_n 0, 1) := by decide +kernel
theorem dX10_step_92 : decode cX10_step 92 = .ok (.getfield 11, 3) := by decide +kernel
theorem dX10_step_95 : decode cX10_step 95 = .ok (.iload_n 1, 1) := by decide +kernel
theorem dX10_step_96 : decode cX10_step 96 = .ok (.iaload, 1) := by decide +kernel
theorem dX10_step_97 : decode cX10_step 97 = .ok (.bipush 97, 2) := by decide +kernel
theorem dX10_step_99 : decode cX10_step 99 = .ok (.if_icmp .lt 136, 3) := by decide +kernel
theorem dX10_step_102 : decode cX10_step 102 = .ok (.aload_n 0, 1) := by decide +kernel
theorem dX10_step_103 : decode cX10_step 103 = .ok (.getfield 11, 3) := by decide +kernel
theorem dX10_step_106 : decode cX10_step 106 = .ok (.iload_n 1, 1) := by decide +kernel
theorem dX10_step_107 : decode cX10_step 107 = .ok (.iaload, 1) := by decide +kernel
theorem dX10_step_108 : decode cX10_step 108 = .ok (.bipush 122, 2) := by decide +kernel
theorem dX10_step_110 : decode cX10_step 110 = .ok (.if_icmp .gt 125, 3) := by decide +kernel
theorem dX10_step_113 : decode cX10_step 113 = .ok (.iinc 1 1, 3) := by decide +kernel
theorem dX10_step_116 : decode cX10_step 116 = .ok (.goto (-33), 3) := by decide +kernel
theorem dX10_step_119 : decode cX10_step 119 = .ok (.aload_n 0, 1) := by decide +kernel
theorem dX10_step_120 : decode cX10_step 120 = .ok (.getfield 11, 3) := by decide +kernel
theorem dX10_step_123 : decode cX10_step 123 = .ok (.iload_n 1, 1) := by decide +kernel
theorem dX10_step_124 : decode cX10_step 124 = .ok (.iaload, 1) := by decide +kernel
theorem dX10_step_125 : decode cX10_step 125 = .ok (.bipush 48, 2) := by decide +kernel
theorem dX10_step_127 : decode cX10_step 127 = .ok (.if_icmp .lt 90, 3) := by decide +kernel
theorem dX10_step_130 : decode cX10_step 130 = .ok (.aload_n 0, 1) := by decide +kernel
theorem dX10_step_131 : decode cX10_step 131 = .ok (.getfield 11, 3) := by decide +kernel
theorem dX10_step_134 : decode cX10_step 134 = .ok (.iload_n 1, 1) := by decide +kernel
theorem dX10_step_135 : decode cX10_step 135 = .ok (.iaload, 1) := by decide +kernel
theorem dX10_step_136 : decode cX10_step 136 = .ok (.bipush 57, 2) := by decide +kernel
theorem dX10_step_138 : decode cX10_step 138 = .ok (.if_icmp .gt 79, 3) := by decide +kernel
theorem dX10_step_141 : decode cX10_step 141 = .ok (.aload_n 0, 1) := by decide +kernel
theorem dX10_step_142 : decode cX10_step 142 = .ok (.iconst 2, 1) := by decide +kernel
theorem dX10_step_143 : decode cX10_step 143 = .ok (.putfield 37, 3) := by decide +kernel
theorem dX10_step_146 : decode cX10_step 146 = .ok (.iload_n 1, 1) := by decide +kernel
theorem dX10_step_147 : decode cX10_step 147 = .ok (.aload_n 0, 1) := by decide +kernel
theorem dX10_step_148 : decode cX10_step 148 = .ok (.getfield 22, 3) := by decide +kernel
theorem dX10_step_151 : decode cX10_step 151 = .ok (.if_icmp .ge 84, 3) := by decide +kernel
theorem dX10_step_154 : decode cX10_step 154 = .ok (.aload_n 0, 1) := by decide +kernel
theorem dX10_step_155 : decode cX10_step 155 = .ok (.getfield 11, 3) := by decide +kernel
theorem dX10_step_158 : decode cX10_step 158 = .ok (.iload_n 1, 1) := by decide +kernel
theorem dX10_step_159 : decode cX10_step 159 = .ok (.iaload, 1) := by decide +kernel
theorem dX10_step_160 : decode cX10_step 160 = .ok (.bipush 48, 2) := by decide +kernel
theorem dX10_step_162 : decode cX10_step 162 = .ok (.if_icmp .lt 73, 3) := by decide +kernel
theorem dX10_step_165 : decode cX10_step 165 = .ok (.aload_n 0, 1) := by decide +kernel
theorem dX10_step_166 : decode cX10_step 166 = .ok (.getfield 11, 3) := by decide +kernel
theorem dX10_step_169 : decode cX10_step 169 = .ok (.iload_n 1, 1) := by decide +kernel
theorem dX10_step_170 : decode cX10_step 170 = .ok (.iaload, 1) := by decide +kernel
theorem dX10_step_171 : decode cX10_step 171 = .ok (.bipush 57, 2) := by decide +kernel
theorem dX10_step_173 : decode cX10_step 173 = .ok (.if_icmp .gt 62, 3) := by decide +kernel
theorem dX10_step_176 : decode cX10_step 176 = .ok (.aload_n 0, 1) := by decide +kernel
theorem dX10_step_177 : decode cX10_step 177 = .ok (.iload_n 1, 1) := by decide +kernel
theorem dX10_step_178 : decode cX10_step 178 = .ok (.aload_n 0, 1) := by decide +kernel
theorem dX10_step_179 : decode cX10_step 179 = .ok (.getfield 31, 3) := by decide +kernel
theorem dX10_step_182 : decode cX10_step 182 = .ok (.isub, 1) := by decide +kernel
theorem dX10_step_183 : decode cX10_step 183 = .ok (.iconst 3, 1) := by decide +kernel
theorem dX10_step_184 : decode cX10_step 184 = .ok (.if_icmp .ge 23, 3) := by decide +kernel
theorem dX10_step_187 : decode cX10_step 187 = .ok (.aload_n 0, 1) := by decide +kernel
theorem dX10_step_188 : decode cX10_step 188 = .ok (.getfield 34, 3) := by decide +kernel
theorem dX10_step_191 : decode cX10_step 191 = .ok (.bipush 10, 2) := by decide +kernel
theorem dX10_step_193 : decode cX10_step 193 = .ok (.imul, 1) := by decide +kernel
theorem dX10_step_194 : decode cX10_step 194 = .ok (.aload_n 0, 1) := by decide +kernel
theorem dX10_step_195 : decode cX10_step 195 = .ok (.getfield 11, 3) := by decide +kernel
theorem dX10_step_198 : decode cX10_step 198 = .ok (.iload_n 1, 1) := by decide +kernel
theorem dX10_step_199 : decode cX10_step 199 = .ok (.iaload, 1) := by decide +kernel
theorem dX10_step_200 : decode cX10_step 200 = .ok (.iadd, 1) := by decide +kernel
theorem dX10_step_201 : decode cX10_step 201 = .ok (.bipush 48, 2) := by decide +kernel
theorem dX10_step_203 : decode cX10_step 203 = .ok (.isub, 1) := by decide +kernel
theorem dX10_step_204 : decode cX10_step 204 = .ok (.goto 4, 3) := by decide +kernel
theorem dX10_step_207 : decode cX10_step 207 = .ok (.iconst (-1), 1) := by decide +kernel
theorem dX10_step_208 : decode cX10_step 208 = .ok (.putfield 34, 3) := by decide +kernel
theorem dX10_step_211 : decode cX10_step 211 = .ok (.iinc 1 1, 3) := by decide +kernel
theorem dX10_step_214 : decode cX10_step 214 = .ok (.goto (-68), 3) := by decide +kernel
theorem dX10_step_217 : decode cX10_step 217 = .ok (.aload_n 0, 1) := by decide +kernel
theorem dX10_step_218 : decode cX10_step 218 = .ok (.iconst 3, 1) := by decide +kernel
theorem dX10_step_219 : decode cX10_step 219 = .ok (.putfield 37, 3) := by decide +kernel
theorem dX10_step_222 : decode cX10_step 222 = .ok (.aload_n 0, 1) := by decide +kernel
theorem dX10_step_223 : decode cX10_step 223 = .ok (.aload_n 0, 1) := by decide +kernel
theorem dX10_step_224 : decode cX10_step 224 = .ok (.getfield 11, 3) := by decide +kernel
theorem dX10_step_227 : decode cX10_step 227 = .ok (.iload_n 1, 1) := by decide +kernel
theorem dX10_step_228 : decode cX10_step 228 = .ok (.iaload, 1) := by decide +kernel
theorem dX10_step_229 : decode cX10_step 229 = .ok (.putfield 34, 3) := by decide +kernel
theorem dX10_step_232 : decode cX10_step 232 = .ok (.iinc 1 1, 3) := by decide +kernel
theorem dX10_step_235 : decode cX10_step 235 = .ok (.aload_n 0, 1) := by decide +kernel
theorem dX10_step_236 : decode cX10_step 236 = .ok (.iload_n 1, 1) := by decide +kernel
theorem dX10_step_237 : decode cX10_step 237 = .ok (.putfield 25, 3) := by decide +kernel
theorem dX10_step_240 : decode cX10_step 240 = .ok (.return_, 1) := by decide +kernel
theorem dX10_isName_0 : decode cX10_isName 0 = .ok (.aload_n 0, 1) := by decide +kernel
theorem dX10_isName_1 : decode cX10_isName 1 = .ok (.getfield 37, 3) := by decide +kernel
theorem dX10_isName_4 : decode cX10_isName 4 = .ok (.iconst 1, 1) := by decide +kernel
theorem dX10_isName_5 : decode cX10_isName 5 = .ok (.if_icmp .ne 19, 3) := by decide +kernel
theorem dX10_isName_8 : decode cX10_isName 8 = .ok (.aload_n 0, 1) := by decide +kernel
theorem dX10_isName_9 : decode cX10_isName 9 = .ok (.getfield 25, 3) := by decide +kernel
theorem dX10_isName_12 : decode cX10_isName 12 = .ok (.aload_n 0, 1) := by decide +kernel
theorem dX10_isName_13 : decode cX10_isName 13 = .ok (.getfield 31, 3) := by decide +kernel
theorem dX10_isName_16 : decode cX10_isName 16 = .ok (.isub, 1) := by decide +kernel
theorem dX10_isName_17 : decode cX10_isName 17 = .ok (.aload_n 1, 1) := by decide +kernel
theorem dX10_isName_18 : decode cX10_isName 18 = .ok (.invokevirtual 40, 3) := by decide +kernel
theorem dX10_isName_21 : decode cX10_isName 21 = .ok (.if_icmp .eq 5, 3) := by decide +kernel
theorem dX10_isName_24 : decode cX10_isName 24 = .ok (.iconst 0, 1) := by decide +kernel
theorem dX10_isName_25 : decode cX10_isName 25 = .ok (.ireturn, 1) := by decide +kernel
theorem dX10_isName_26 : decode cX10_isName 26 = .ok (.iconst 0, 1) := by decide +kernel
theorem dX10_isName_27 : decode cX10_isName 27 = .ok (.istore_n 2, 1) := by decide +kernel
theorem dX10_isName_28 : decode cX10_isName 28 = .ok (.iload_n 2, 1) := by decide +kernel
theorem dX10_isName_29 : decode cX10_isName 29 = .ok (.aload_n 1, 1) := by decide +kernel
theorem dX10_isName_30 : decode cX10_isName 30 = .ok (.invokevirtual 40, 3) := by decide +kernel
theorem dX10_isName_33 : decode cX10_isName 33 = .ok (.if_icmp .ge 30, 3) := by decide +kernel
theorem dX10_isName_36 : decode cX10_isName 36 = .ok (.aload_n 0, 1) := by decide +kernel
theorem dX10_isName_37 : decode cX10_isName 37 = .ok (.getfield 11, 3) := by decide +kernel
theorem dX10_isName_40 : decode cX10_isName 40 = .ok (.aload_n 0, 1) := by decide +kernel
theorem dX10_isName_41 : decode cX10_isName 41 = .ok (.getfield 31, 3) := by decide +kernel
theorem dX10_isName_44 : decode cX10_isName 44 = .ok (.iload_n 2, 1) := by decide +kernel
theorem dX10_isName_45 : decode cX10_isName 45 = .ok (.iadd, 1) := by decide +kernel
theorem dX10_isName_46 : decode cX10_isName 46 = .ok (.iaload, 1) := by decide +kernel
theorem dX10_isName_47 : decode cX10_isName 47 = .ok (.aload_n 1, 1) := by decide +kernel
theorem dX10_isName_48 : decode cX10_isName 48 = .ok (.iload_n 2, 1) := by decide +kernel
theorem dX10_isName_49 : decode cX10_isName 49 = .ok (.invokevirtual 45, 3) := by decide +kernel
theorem dX10_isName_52 : decode cX10_isName 52 = .ok (.if_icmp .eq 5, 3) := by decide +kernel
theorem dX10_isName_55 : decode cX10_isName 55 = .ok (.iconst 0, 1) := by decide +kernel
theorem dX10_isName_56 : decode cX10_isName 56 = .ok (.ireturn, 1) := by decide +kernel
theorem dX10_isName_57 : decode cX10_isName 57 = .ok (.iinc 2 1, 3) := by decide +kernel
theorem dX10_isName_60 : decode cX10_isName 60 = .ok (.goto (-32), 3) := by decide +kernel
theorem dX10_isName_63 : decode cX10_isName 63 = .ok (.iconst 1, 1) := by decide +kernel
theorem dX10_isName_64 : decode cX10_isName 64 = .ok (.ireturn, 1) := by decide +kernel
theorem dX10_takesName_0 : decode cX10_takesName 0 = .ok (.aload_n 0, 1) := by decide +kernel
theorem dX10_takesName_1 : decode cX10_takesName 1 = .ok (.aload_n 1, 1) := by decide +kernel
theorem dX10_takesName_2 : decode cX10_takesName 2 = .ok (.invokevirtual 49, 3) := by decide +kernel
theorem dX10_takesName_5 : decode cX10_takesName 5 = .ok (.istore_n 2, 1) := by decide +kernel
theorem dX10_takesName_6 : decode cX10_takesName 6 = .ok (.iload_n 2, 1) := by decide +kernel
theorem dX10_takesName_7 : decode cX10_takesName 7 = .ok (.ifCond .eq 7, 3) := by decide +kernel
theorem dX10_takesName_10 : decode cX10_takesName 10 = .ok (.aload_n 0, 1) := by decide +kernel
theorem dX10_takesName_11 : decode cX10_takesName 11 = .ok (.invokevirtual 28, 3) := by decide +kernel
theorem dX10_takesName_14 : decode cX10_takesName 14 = .ok (.iload_n 2, 1) := by decide +kernel
theorem dX10_takesName_15 : decode cX10_takesName 15 = .ok (.ireturn, 1) := by decide +kernel
theorem dX10_isSign_0 : decode cX10_isSign 0 = .ok (.aload_n 0, 1) := by decide +kernel
theorem dX10_isSign_1 : decode cX10_isSign 1 = .ok (.getfield 37, 3) := by decide +kernel
theorem dX10_isSign_4 : decode cX10_isSign 4 = .ok (.iconst 3, 1) := by decide +kernel
theorem dX10_isSign_5 : decode cX10_isSign 5 = .ok (.if_icmp .ne 15, 3) := by decide +kernel
theorem dX10_isSign_8 : decode cX10_isSign 8 = .ok (.aload_n 0, 1) := by decide +kernel
theorem dX10_isSign_9 : decode cX10_isSign 9 = .ok (.getfield 34, 3) := by decide +kernel
theorem dX10_isSign_12 : decode cX10_isSign 12 = .ok (.iload_n 1, 1) := by decide +kernel
theorem dX10_isSign_13 : decode cX10_isSign 13 = .ok (.if_icmp .ne 7, 3) := by decide +kernel
theorem dX10_isSign_16 : decode cX10_isSign 16 = .ok (.iconst 1, 1) := by decide +kernel
theorem dX10_isSign_17 : decode cX10_isSign 17 = .ok (.goto 4, 3) := by decide +kernel
theorem dX10_isSign_20 : decode cX10_isSign 20 = .ok (.iconst 0, 1) := by decide +kernel
theorem dX10_isSign_21 : decode cX10_isSign 21 = .ok (.ireturn, 1) := by decide +kernel
theorem dX10_takesSign_0 : decode cX10_takesSign 0 = .ok (.aload_n 0, 1) := by decide +kernel
theorem dX10_takesSign_1 : decode cX10_takesSign 1 = .ok (.iload_n 1, 1) := by decide +kernel
theorem dX10_takesSign_2 : decode cX10_takesSign 2 = .ok (.invokevirtual 53, 3) := by decide +kernel
theorem dX10_takesSign_5 : decode cX10_takesSign 5 = .ok (.istore_n 2, 1) := by decide +kernel
theorem dX10_takesSign_6 : decode cX10_takesSign 6 = .ok (.iload_n 2, 1) := by decide +kernel
theorem dX10_takesSign_7 : decode cX10_takesSign 7 = .ok (.ifCond .eq 7, 3) := by decide +kernel
theorem dX10_takesSign_10 : decode cX10_takesSign 10 = .ok (.aload_n 0, 1) := by decide +kernel
theorem dX10_takesSign_11 : decode cX10_takesSign 11 = .ok (.invokevirtual 28, 3) := by decide +kernel
theorem dX10_takesSign_14 : decode cX10_takesSign 14 = .ok (.iload_n 2, 1) := by decide +kernel
theorem dX10_takesSign_15 : decode cX10_takesSign 15 = .ok (.ireturn, 1) := by decide +kernel
theorem dX10_takeNumber_0 : decode cX10_takeNumber 0 = .ok (.aload_n 0, 1) := by decide +kernel
theorem dX10_takeNumber_1 : decode cX10_takeNumber 1 = .ok (.getfield 37, 3) := by decide +kernel
theorem dX10_takeNumber_4 : decode cX10_takeNumber 4 = .ok (.iconst 2, 1) := by decide +kernel
theorem dX10_takeNumber_5 : decode cX10_takeNumber 5 = .ok (.if_icmp .ne 19, 3) := by decide +kernel
theorem dX10_takeNumber_8 : decode cX10_takeNumber 8 = .ok (.aload_n 0, 1) := by decide +kernel
theorem dX10_takeNumber_9 : decode cX10_takeNumber 9 = .ok (.getfield 34, 3) := by decide +kernel
theorem dX10_takeNumber_12 : decode cX10_takeNumber 12 = .ok (.iload_n 1, 1) := by decide +kernel
theorem dX10_takeNumber_13 : decode cX10_takeNumber 13 = .ok (.if_icmp .lt 11, 3) := by decide +kernel
theorem dX10_takeNumber_16 : decode cX10_takeNumber 16 = .ok (.aload_n 0, 1) := by decide +kernel
theorem dX10_takeNumber_17 : decode cX10_takeNumber 17 = .ok (.getfield 34, 3) := by decide +kernel
theorem dX10_takeNumber_20 : decode cX10_takeNumber 20 = .ok (.iload_n 2, 1) := by decide +kernel
theorem dX10_takeNumber_21 : decode cX10_takeNumber 21 = .ok (.if_icmp .le 10, 3) := by decide +kernel
theorem dX10_takeNumber_24 : decode cX10_takeNumber 24 = .ok (.aload_n 0, 1) := by decide +kernel
theorem dX10_takeNumber_25 : decode cX10_takeNumber 25 = .ok (.invokevirtual 57, 3) := by decide +kernel
theorem dX10_takeNumber_28 : decode cX10_takeNumber 28 = .ok (.pop, 1) := by decide +kernel
theorem dX10_takeNumber_29 : decode cX10_takeNumber 29 = .ok (.iconst (-1), 1) := by decide +kernel
theorem dX10_takeNumber_30 : decode cX10_takeNumber 30 = .ok (.ireturn, 1) := by decide +kernel
theorem dX10_takeNumber_31 : decode cX10_takeNumber 31 = .ok (.aload_n 0, 1) := by decide +kernel
theorem dX10_takeNumber_32 : decode cX10_takeNumber 32 = .ok (.getfield 34, 3) := by decide +kernel
theorem dX10_takeNumber_35 : decode cX10_takeNumber 35 = .ok (.istore_n 3, 1) := by decide +kernel
theorem dX10_takeNumber_36 : decode cX10_takeNumber 36 = .ok (.aload_n 0, 1) := by decide +kernel
theorem dX10_takeNumber_37 : decode cX10_takeNumber 37 = .ok (.invokevirtual 28, 3) := by decide +kernel
theorem dX10_takeNumber_40 : decode cX10_takeNumber 40 = .ok (.iload_n 3, 1) := by decide +kernel
theorem dX10_takeNumber_41 : decode cX10_takeNumber 41 = .ok (.ireturn, 1) := by decide +kernel
theorem dX10_letterOfName_0 : decode cX10_letterOfName 0 = .ok (.aload_n 0, 1) := by decide +kernel
theorem dX10_letterOfName_1 : decode cX10_letterOfName 1 = .ok (.getfield 11, 3) := by decide +kernel
theorem dX10_letterOfName_4 : decode cX10_letterOfName 4 = .ok (.aload_n 0, 1) := by decide +kernel
theorem dX10_letterOfName_5 : decode cX10_letterOfName 5 = .ok (.getfield 31, 3) := by decide +kernel
theorem dX10_letterOfName_8 : decode cX10_letterOfName 8 = .ok (.iload_n 1, 1) := by decide +kernel
theorem dX10_letterOfName_9 : decode cX10_letterOfName 9 = .ok (.iadd, 1) := by decide +kernel
theorem dX10_letterOfName_10 : decode cX10_letterOfName 10 = .ok (.iaload, 1) := by decide +kernel
theorem dX10_letterOfName_11 : decode cX10_letterOfName 11 = .ok (.bipush 97, 2) := by decide +kernel
theorem dX10_letterOfName_13 : decode cX10_letterOfName 13 = .ok (.isub, 1) := by decide +kernel
theorem dX10_letterOfName_14 : decode cX10_letterOfName 14 = .ok (.istore_n 2, 1) := by decide +kernel
theorem dX10_letterOfName_15 : decode cX10_letterOfName 15 = .ok (.iload_n 2, 1) := by decide +kernel
theorem dX10_letterOfName_16 : decode cX10_letterOfName 16 = .ok (.ifCond .lt 9, 3) := by decide +kernel
theorem dX10_letterOfName_19 : decode cX10_letterOfName 19 = .ok (.iload_n 2, 1) := by decide +kernel
theorem dX10_letterOfName_20 : decode cX10_letterOfName 20 = .ok (.bipush 8, 2) := by decide +kernel
theorem dX10_letterOfName_22 : decode cX10_letterOfName 22 = .ok (.if_icmp .lt 7, 3) := by decide +kernel
theorem dX10_letterOfName_25 : decode cX10_letterOfName 25 = .ok (.iconst (-1), 1) := by decide +kernel
theorem dX10_letterOfName_26 : decode cX10_letterOfName 26 = .ok (.goto 4, 3) := by decide +kernel
theorem dX10_letterOfName_29 : decode cX10_letterOfName 29 = .ok (.iload_n 2, 1) := by decide +kernel
theorem dX10_letterOfName_30 : decode cX10_letterOfName 30 = .ok (.ireturn, 1) := by decide +kernel
theorem dX10_refuse_0 : decode cX10_refuse 0 = .ok (.aload_n 0, 1) := by decide +kernel
theorem dX10_refuse_1 : decode cX10_refuse 1 = .ok (.getfield 15, 3) := by decide +kernel
theorem dX10_refuse_4 : decode cX10_refuse 4 = .ok (.iconst (-1), 1) := by decide +kernel
theorem dX10_refuse_5 : decode cX10_refuse 5 = .ok (.if_icmp .ne 11, 3) := by decide +kernel
theorem dX10_refuse_8 : decode cX10_refuse 8 = .ok (.aload_n 0, 1) := by decide +kernel
theorem dX10_refuse_9 : decode cX10_refuse 9 = .ok (.aload_n 0, 1) := by decide +kernel
theorem dX10_refuse_10 : decode cX10_refuse 10 = .ok (.getfield 31, 3) := by decide +kernel
theorem dX10_refuse_13 : decode cX10_refuse 13 = .ok (.putfield 15, 3) := by decide +kernel
theorem dX10_refuse_16 : decode cX10_refuse 16 = .ok (.iconst 0, 1) := by decide +kernel
theorem dX10_refuse_17 : decode cX10_refuse 17 = .ok (.ireturn, 1) := by decide +kernel
theorem dX11_init_0 : decode cX11_init 0 = .ok (.aload_n 0, 1) := by decide +kernel
theorem dX11_init_1 : decode cX11_init 1 = .ok (.invokespecial 1, 3) := by decide +kernel
theorem dX11_init_4 : decode cX11_init 4 = .ok (.aload_n 0, 1) := by decide +kernel
theorem dX11_init_5 : decode cX11_init 5 = .ok (.new 7, 3) := by decide +kernel
theorem dX11_init_8 : decode cX11_init 8 = .ok (.dup, 1) := by decide +kernel
theorem dX11_init_9 : decode cX11_init 9 = .ok (.invokespecial 9, 3) := by decide +kernel
theorem dX11_init_12 : decode cX11_init 12 = .ok (.putfield 10, 3) := by decide +kernel
theorem dX11_init_15 : decode cX11_init 15 = .ok (.aload_n 0, 1) := by decide +kernel
theorem dX11_init_16 : decode cX11_init 16 = .ok (.new 16, 3) := by decide +kernel
theorem dX11_init_19 : decode cX11_init 19 = .ok (.dup, 1) := by decide +kernel
theorem dX11_init_20 : decode cX11_init 20 = .ok (.invokespecial 18, 3) := by decide +kernel
theorem dX11_init_23 : decode cX11_init 23 = .ok (.putfield 19, 3) := by decide +kernel
theorem dX11_init_26 : decode cX11_init 26 = .ok (.aload_n 0, 1) := by decide +kernel
theorem dX11_init_27 : decode cX11_init 27 = .ok (.new 16, 3) := by decide +kernel
theorem dX11_init_30 : decode cX11_init 30 = .ok (.dup, 1) := by decide +kernel
theorem dX11_init_31 : decode cX11_init 31 = .ok (.invokespecial 18, 3) := by decide +kernel
theorem dX11_init_34 : decode cX11_init 34 = .ok (.putfield 23, 3) := by decide +kernel
theorem dX11_init_37 : decode cX11_init 37 = .ok (.aload_n 0, 1) := by decide +kernel
theorem dX11_init_38 : decode cX11_init 38 = .ok (.new 26, 3) := by decide +kernel
theorem dX11_init_41 : decode cX11_init 41 = .ok (.dup, 1) := by decide +kernel
theorem dX11_init_42 : decode cX11_init 42 = .ok (.aload_n 0, 1) := by decide +kernel
theorem dX11_init_43 : decode cX11_init 43 = .ok (.getfield 10, 3) := by decide +kernel
theorem dX11_init_46 : decode cX11_init 46 = .ok (.aload_n 0, 1) := by decide +kernel
theorem dX11_init_47 : decode cX11_init 47 = .ok (.getfield 23, 3) := by decide +kernel
theorem dX11_init_50 : decode cX11_init 50 = .ok (.invokespecial 28, 3) := by decide +kernel
theorem dX11_init_53 : decode cX11_init 53 = .ok (.putfield 31, 3) := by decide +kernel
theorem dX11_init_56 : decode cX11_init 56 = .ok (.aload_n 0, 1) := by decide +kernel
theorem dX11_init_57 : decode cX11_init 57 = .ok (.new 35, 3) := by decide +kernel
theorem dX11_init_60 : decode cX11_init 60 = .ok (.dup, 1) := by decide +kernel
theorem dX11_init_61 : decode cX11_init 61 = .ok (.aload_n 0, 1) := by decide +kernel
theorem dX11_init_62 : decode cX11_init 62 = .ok (.getfield 10, 3) := by decide +kernel
theorem dX11_init_65 : decode cX11_init 65 = .ok (.invokespecial 37, 3) := by decide +kernel
theorem dX11_init_68 : decode cX11_init 68 = .ok (.putfield 40, 3) := by decide +kernel
theorem dX11_init_71 : decode cX11_init 71 = .ok (.aload_n 0, 1) := by decide +kernel
theorem dX11_init_72 : decode cX11_init 72 = .ok (.new 44, 3) := by decide +kernel
theorem dX11_init_75 : decode cX11_init 75 = .ok (.dup, 1) := by decide +kernel
theorem dX11_init_76 : decode cX11_init 76 = .ok (.invokespecial 46, 3) := by decide +kernel
theorem dX11_init_79 : decode cX11_init 79 = .ok (.putfield 47, 3) := by decide +kernel
theorem dX11_init_82 : decode cX11_init 82 = .ok (.aload_n 0, 1) := by decide +kernel
theorem dX11_init_83 : decode cX11_init 83 = .ok (.new 51, 3) := by decide +kernel
theorem dX11_init_86 : decode cX11_init 86 = .ok (.dup, 1) := by decide +kernel
theorem dX11_init_87 : decode cX11_init 87 = .ok (.aload_n 0, 1) := by decide +kernel
theorem dX11_init_88 : decode cX11_init 88 = .ok (.getfield 47, 3) := by decide +kernel
theorem dX11_init_91 : decode cX11_init 91 = .ok (.invokespecial 53, 3) := by decide +kernel
theorem dX11_init_94 : decode cX11_init 94 = .ok (.putfield 56, 3) := by decide +kernel
theorem dX11_init_97 : decode cX11_init 97 = .ok (.aload_n 0, 1) := by decide +kernel
theorem dX11_init_98 : decode cX11_init 98 = .ok (.new 60, 3) := by decide +kernel
theorem dX11_init_101 : decode cX11_init 101 = .ok (.dup, 1) := by decide +kernel
theorem dX11_init_102 : decode cX11_init 102 = .ok (.aload_n 0, 1) := by decide +kernel
theorem dX11_init_103 : decode cX11_init 103 = .ok (.getfield 19, 3) := by decide +kernel
theorem dX11_init_106 : decode cX11_init 106 = .ok (.invokespecial 62, 3) := by decide +kernel
theorem dX11_init_109 : decode cX11_init 109 = .ok (.putfield 65, 3) := by decide +kernel
theorem dX11_init_112 : decode cX11_init 112 = .ok (.aload_n 0, 1) := by decide +kernel
theorem dX11_init_113 : decode cX11_init 113 = .ok (.new 69, 3) := by decide +kernel
theorem dX11_init_116 : decode cX11_init 116 = .ok (.dup, 1) := by decide +kernel
theorem dX11_init_117 : decode cX11_init 117 = .ok (.aload_n 0, 1) := by decide +kernel
theorem dX11_init_118 : decode cX11_init 118 = .ok (.getfield 10, 3) := by decide +kernel
theorem dX11_init_121 : decode cX11_init 121 = .ok (.aload_n 0, 1) := by decide +kernel
theorem dX11_init_122 : decode cX11_init 122 = .ok (.getfield 19, 3) := by decide +kernel
theorem dX11_init_125 : decode cX11_init 125 = .ok (.invokespecial 71, 3) := by decide +kernel
theorem dX11_init_128 : decode cX11_init 128 = .ok (.putfield 72, 3) := by decide +kernel
theorem dX11_init_131 : decode cX11_init 131 = .ok (.aload_n 0, 1) := by decide +kernel
theorem dX11_init_132 : decode cX11_init 132 = .ok (.new 76, 3) := by decide +kernel
theorem dX11_init_135 : decode cX11_init 135 = .ok (.dup, 1) := by decide +kernel
theorem dX11_init_136 : decode cX11_init 136 = .ok (.aload_n 0, 1) := by decide +kernel
theorem dX11_init_137 : decode cX11_init 137 = .ok (.getfield 19, 3) := by decide +kernel
theorem dX11_init_140 : decode cX11_init 140 = .ok (.aload_n 0, 1) := by decide +kernel
theorem dX11_init_141 : decode cX11_init 141 = .ok (.getfield 47, 3) := by decide +kernel
theorem dX11_init_144 : decode cX11_init 144 = .ok (.invokespecial 78, 3) := by decide +kernel
theorem dX11_init_147 : decode cX11_init 147 = .ok (.putfield 81, 3) := by decide +kernel
theorem dX11_init_150 : decode cX11_init 150 = .ok (.aload_n 0, 1) := by decide +kernel
theorem dX11_init_151 : decode cX11_init 151 = .ok (.bipush 12, 2) := by decide +kernel
theorem dX11_init_153 : decode cX11_init 153 = .ok (.anewarray 16, 3) := by decide +kernel
theorem dX11_init_156 : decode cX11_init 156 = .ok (.putfield 85, 3) := by decide +kernel
theorem dX11_init_159 : decode cX11_init 159 = .ok (.aload_n 0, 1) := by decide +kernel
theorem dX11_init_160 : decode cX11_init 160 = .ok (.iconst (-1), 1) := by decide +kernel
theorem dX11_init_161 : decode cX11_init 161 = .ok (.putfield 89, 3) := by decide +kernel
theorem dX11_init_164 : decode cX11_init 164 = .ok (.return_, 1) := by decide +kernel
theorem dX11_feed_0 : decode cX11_feed 0 = .ok (.aload_n 0, 1) := by decide +kernel
theorem dX11_feed_1 : decode cX11_feed 1 = .ok (.getfield 10, 3) := by decide +kernel
theorem dX11_feed_4 : decode cX11_feed 4 = .ok (.getfield 93, 3) := by decide +kernel
theorem dX11_feed_7 : decode cX11_feed 7 = .ok (.bipush 20, 2) := by decide +kernel
theorem dX11_feed_9 : decode cX11_feed 9 = .ok (.iadd, 1) := by decide +kernel
theorem dX11_feed_10 : decode cX11_feed 10 = .ok (.sipush 400, 3) := by decide +kernel
theorem dX11_feed_13 : decode cX11_feed 13 = .ok (.if_icmp .le 5, 3) := by decide +kernel
theorem dX11_feed_16 : decode cX11_feed 16 = .ok (.iconst (-1), 1) := by decide +kernel
theorem dX11_feed_17 : decode cX11_feed 17 = .ok (.ireturn, 1) := by decide +kernel
theorem dX11_feed_18 : decode cX11_feed 18 = .ok (.aload_n 0, 1) := by decide +kernel
theorem dX11_feed_19 : decode cX11_feed 19 = .ok (.getfield 10, 3) := by decide +kernel
theorem dX11_feed_22 : decode cX11_feed 22 = .ok (.iload_n 1, 1) := by decide +kernel
theorem dX11_feed_23 : decode cX11_feed 23 = .ok (.invokevirtual 96, 3) := by decide +kernel
theorem dX11_feed_26 : decode cX11_feed 26 = .ok (.aload_n 0, 1) := by decide +kernel
theorem dX11_feed_27 : decode cX11_feed 27 = .ok (.getfield 10, 3) := by decide +kernel
theorem dX11_feed_30 : decode cX11_feed 30 = .ok (.iload_n 2, 1) := by decide +kernel
theorem dX11_feed_31 : decode cX11_feed 31 = .ok (.invokevirtual 96, 3) := by decide +kernel
theorem dX11_feed_34 : decode cX11_feed 34 = .ok (.aload_n 0, 1) := by decide +kernel
theorem dX11_feed_35 : decode cX11_feed 35 = .ok (.getfield 10, 3) := by decide +kernel
theorem dX11_feed_38 : decode cX11_feed 38 = .ok (.iload_n 3, 1) := by decide +kernel
theorem dX11_feed_39 : decode cX11_feed 39 = .ok (.invokevirtual 96, 3) := by decide +kernel
theorem dX11_feed_42 : decode cX11_feed 42 = .ok (.aload_n 0, 1) := by decide +kernel
theorem dX11_feed_43 : decode cX11_feed 43 = .ok (.getfield 10, 3) := by decide +kernel
theorem dX11_feed_46 : decode cX11_feed 46 = .ok (.iload 4, 2) := by decide +kernel
theorem dX11_feed_48 : decode cX11_feed 48 = .ok (.invokevirtual 96, 3) := by decide +kernel
theorem dX11_feed_51 : decode cX11_feed 51 = .ok (.aload_n 0, 1) := by decide +kernel
theorem dX11_feed_52 : decode cX11_feed 52 = .ok (.getfield 10, 3) := by decide +kernel
theorem dX11_feed_55 : decode cX11_feed 55 = .ok (.iload 5, 2) := by decide +kernel
theorem dX11_feed_57 : decode cX11_feed 57 = .ok (.invokevirtual 96, 3) := by decide +kernel
theorem dX11_feed_60 : decode cX11_feed 60 = .ok (.aload_n 0, 1) := by decide +kernel
theorem dX11_feed_61 : decode cX11_feed 61 = .ok (.getfield 10, 3) := by decide +kernel
theorem dX11_feed_64 : decode cX11_feed 64 = .ok (.getfield 93, 3) := by decide +kernel
theorem dX11_feed_67 : decode cX11_feed 67 = .ok (.ireturn, 1) := by decide +kernel
theorem dX11_end_0 : decode cX11_end 0 = .ok (.iload_n 1, 1) := by decide +kernel
theorem dX11_end_1 : decode cX11_end 1 = .ok (.ifCond .lt 14, 3) := by decide +kernel
theorem dX11_end_4 : decode cX11_end 4 = .ok (.iload_n 1, 1) := by decide +kernel
theorem dX11_end_5 : decode cX11_end 5 = .ok (.aload_n 0, 1) := by decide +kernel
theorem dX11_end_6 : decode cX11_end 6 = .ok (.getfield 10, 3) := by decide +kernel
theorem dX11_end_9 : decode cX11_end 9 = .ok (.getfield 93, 3) := by decide +kernel
theorem dX11_end_12 : decode cX11_end 12 = .ok (.if_icmp .le 5, 3) := by decide +kernel
theorem dX11_end_15 : decode cX11_end 15 = .ok (.iconst 0, 1) := by decide +kernel
theorem dX11_end_16 : decode cX11_end 16 = .ok (.ireturn, 1) := by decide +kernel
theorem dX11_end_17 : decode cX11_end 17 = .ok (.aload_n 0, 1) := by decide +kernel
theorem dX11_end_18 : decode cX11_end 18 = .ok (.getfield 10, 3) := by decide +kernel
theorem dX11_end_21 : decode cX11_end 21 = .ok (.iload_n 1, 1) := by decide +kernel
theorem dX11_end_22 : decode cX11_end 22 = .ok (.putfield 93, 3) := by decide +kernel
theorem dX11_end_25 : decode cX11_end 25 = .ok (.iconst 1, 1) := by decide +kernel
theorem dX11_end_26 : decode cX11_end 26 = .ok (.ireturn, 1) := by decide +kernel
theorem dX11_evening_0 : decode cX11_evening 0 = .ok (.aload_n 0, 1) := by decide +kernel
theorem dX11_evening_1 : decode cX11_evening 1 = .ok (.getfield 23, 3) := by decide +kernel
theorem dX11_evening_4 : decode cX11_evening 4 = .ok (.aload_n 0, 1) := by decide +kernel
theorem dX11_evening_5 : decode cX11_evening 5 = .ok (.getfield 19, 3) := by decide +kernel
theorem dX11_evening_8 : decode cX11_evening 8 = .ok (.invokevirtual 100, 3) := by decide +kernel
theorem dX11_evening_11 : decode cX11_evening 11 = .ok (.aload_n 0, 1) := by decide +kernel
theorem dX11_evening_12 : decode cX11_evening 12 = .ok (.getfield 31, 3) := by decide +kernel
theorem dX11_evening_15 : decode cX11_evening 15 = .ok (.invokevirtual 103, 3) := by decide +kernel
theorem dX11_evening_18 : decode cX11_evening 18 = .ok (.istore_n 1, 1) := by decide +kernel
theorem dX11_evening_19 : decode cX11_evening 19 = .ok (.aload_n 0, 1) := by decide +kernel
theorem dX11_evening_20 : decode cX11_evening 20 = .ok (.aload_n 0, 1) := by decide +kernel
theorem dX11_evening_21 : decode cX11_evening 21 = .ok (.getfield 10, 3) := by decide +kernel
theorem dX11_evening_24 : decode cX11_evening 24 = .ok (.getfield 107, 3) := by decide +kernel
theorem dX11_evening_27 : decode cX11_evening 27 = .ok (.putfield 89, 3) := by decide +kernel
theorem dX11_evening_30 : decode cX11_evening 30 = .ok (.iload_n 1, 1) := by decide +kernel
theorem dX11_evening_31 : decode cX11_evening 31 = .ok (.ifCond .ne 13, 3) := by decide +kernel
theorem dX11_evening_34 : decode cX11_evening 34 = .ok (.new 110, 3) := by decide +kernel
theorem dX11_evening_37 : decode cX11_evening 37 = .ok (.dup, 1) := by decide +kernel
theorem dX11_evening_38 : decode cX11_evening 38 = .ok (.ldc 112, 2) := by decide +kernel
theorem dX11_evening_40 : decode cX11_evening 40 = .ok (.invokespecial 114, 3) := by decide +kernel
theorem dX11_evening_43 : decode cX11_evening 43 = .ok (.athrow, 1) := by decide +kernel
theorem dX11_evening_44 : decode cX11_evening 44 = .ok (.aload_n 0, 1) := by decide +kernel
theorem dX11_evening_45 : decode cX11_evening 45 = .ok (.getfield 19, 3) := by decide +kernel
theorem dX11_evening_48 : decode cX11_evening 48 = .ok (.getfield 117, 3) := by decide +kernel
theorem dX11_evening_51 : decode cX11_evening 51 = .ok (.bipush 12, 2) := by decide +kernel
theorem dX11_evening_53 : decode cX11_evening 53 = .ok (.if_icmp .lt 13, 3) := by decide +kernel
theorem dX11_evening_56 : decode cX11_evening 56 = .ok (.new 120, 3) := by decide +kernel
theorem dX11_evening_59 : decode cX11_evening 59 = .ok (.dup, 1) := by decide +kernel
theorem dX11_evening_60 : decode cX11_evening 60 = .ok (.ldc 122, 2) := by decide +kernel
theorem dX11_evening_62 : decode cX11_evening 62 = .ok (.invokespecial 124, 3) := by decide +kernel
theorem dX11_evening_65 : decode cX11_evening 65 = .ok (.athrow, 1) := by decide +kernel
theorem dX11_evening_66 : decode cX11_evening 66 = .ok (.aload_n 0, 1) := by decide +kernel
theorem dX11_evening_67 : decode cX11_evening 67 = .ok (.getfield 19, 3) := by decide +kernel
theorem dX11_evening_70 : decode cX11_evening 70 = .ok (.aload_n 0, 1) := by decide +kernel
theorem dX11_evening_71 : decode cX11_evening 71 = .ok (.getfield 23, 3) := by decide +kernel
theorem dX11_evening_74 : decode cX11_evening 74 = .ok (.invokevirtual 100, 3) := by decide +kernel
theorem dX11_evening_77 : decode cX11_evening 77 = .ok (.aload_n 0, 1) := by decide +kernel
theorem dX11_evening_78 : decode cX11_evening 78 = .ok (.getfield 19, 3) := by decide +kernel
theorem dX11_evening_81 : decode cX11_evening 81 = .ok (.dup, 1) := by decide +kernel
theorem dX11_evening_82 : decode cX11_evening 82 = .ok (.getfield 117, 3) := by decide +kernel
theorem dX11_evening_85 : decode cX11_evening 85 = .ok (.iconst 1, 1) := by decide +kernel
theorem dX11_evening_86 : decode cX11_evening 86 = .ok (.iadd, 1) := by decide +kernel
theorem dX11_evening_87 : decode cX11_evening 87 = .ok (.putfield 117, 3) := by decide +kernel
theorem dX11_evening_90 : decode cX11_evening 90 = .ok (.aload_n 0, 1) := by decide +kernel
theorem dX11_evening_91 : decode cX11_evening 91 = .ok (.invokevirtual 125, 3) := by decide +kernel
theorem dX11_evening_94 : decode cX11_evening 94 = .ok (.aload_n 0, 1) := by decide +kernel
theorem dX11_evening_95 : decode cX11_evening 95 = .ok (.getfield 19, 3) := by decide +kernel
theorem dX11_evening_98 : decode cX11_evening 98 = .ok (.getfield 117, 3) := by decide +kernel
theorem dX11_evening_101 : decode cX11_evening 101 = .ok (.ireturn, 1) := by decide +kernel
theorem dX11_law_0 : decode cX11_law 0 = .ok (.aload_n 0, 1) := by decide +kernel
theorem dX11_law_1 : decode cX11_law 1 = .ok (.getfield 40, 3) := by decide +kernel
theorem dX11_law_4 : decode cX11_law 4 = .ok (.invokevirtual 128, 3) := by decide +kernel
theorem dX11_law_7 : decode cX11_law 7 = .ok (.istore_n 1, 1) := by decide +kernel
theorem dX11_law_8 : decode cX11_law 8 = .ok (.aload_n 0, 1) := by decide +kernel
theorem dX11_law_9 : decode cX11_law 9 = .ok (.aload_n 0, 1) := by decide +kernel
theorem dX11_law_10 : decode cX11_law 10 = .ok (.getfield 10, 3) := by decide +kernel
theorem dX11_law_13 : decode cX11_law 13 = .ok (.getfield 107, 3) := by decide +kernel
theorem dX11_law_16 : decode cX11_law 16 = .ok (.putfield 89, 3) := by decide +kernel
theorem dX11_law_19 : decode cX11_law 19 = .ok (.iload_n 1, 1) := by decide +kernel
theorem dX11_law_20 : decode cX11_law 20 = .ok (.ifCond .ne 13, 3) := by decide +kernel
theorem dX11_law_23 : decode cX11_law 23 = .ok (.new 110, 3) := by decide +kernel
theorem dX11_law_26 : decode cX11_law 26 = .ok (.dup, 1) := by decide +kernel
theorem dX11_law_27 : decode cX11_law 27 = .ok (.ldc 112, 2) := by decide +kernel
theorem dX11_law_29 : decode cX11_law 29 = .ok (.invokespecial 114, 3) := by decide +kernel
theorem dX11_law_32 : decode cX11_law 32 = .ok (.athrow, 1) := by decide +kernel
theorem dX11_law_33 : decode cX11_law 33 = .ok (.aload_n 0, 1) := by decide +kernel
theorem dX11_law_34 : decode cX11_law 34 = .ok (.getfield 40, 3) := by decide +kernel
theorem dX11_law_37 : decode cX11_law 37 = .ok (.invokevirtual 129, 3) := by decide +kernel
theorem dX11_law_40 : decode cX11_law 40 = .ok (.astore_n 2, 1) := by decide +kernel
theorem dX11_law_41 : decode cX11_law 41 = .ok (.aload_n 0, 1) := by decide +kernel
theorem dX11_law_42 : decode cX11_law 42 = .ok (.getfield 19, 3) := by decide +kernel
theorem dX11_law_45 : decode cX11_law 45 = .ok (.aload_n 2, 1) := by decide +kernel
theorem dX11_law_46 : decode cX11_law 46 = .ok (.putfield 133, 3) := by decide +kernel
theorem dX11_law_49 : decode cX11_law 49 = .ok (.aload_n 0, 1) := by decide +kernel
theorem dX11_law_50 : decode cX11_law 50 = .ok (.invokevirtual 125, 3) := by decide +kernel
theorem dX11_law_53 : decode cX11_law 53 = .ok (.aload_n 2, 1) := by decide +kernel
theorem dX11_law_54 : decode cX11_law 54 = .ok (.getfield 137, 3) := by decide +kernel
theorem dX11_law_57 : decode cX11_law 57 = .ok (.ireturn, 1) := by decide +kernel
theorem dX11_fault_0 : decode cX11_fault 0 = .ok (.aload_n 0, 1) := by decide +kernel
theorem dX11_fault_1 : decode cX11_fault 1 = .ok (.getfield 89, 3) := by decide +kernel
theorem dX11_fault_4 : decode cX11_fault 4 = .ok (.ireturn, 1) := by decide +kernel
theorem dX11_word_0 : decode cX11_word 0 = .ok (.aload_n 0, 1) := by decide +kernel
theorem dX11_word_1 : decode cX11_word 1 = .ok (.iload_n 1, 1) := by decide +kernel
theorem dX11_word_2 : decode cX11_word 2 = .ok (.invokevirtual 142, 3) := by decide +kernel
theorem dX11_word_5 : decode cX11_word 5 = .ok (.iload_n 2, 1) := by decide +kernel
theorem dX11_word_6 : decode cX11_word 6 = .ok (.tableswitch 68 0 3 #[30, 40, 50, 59], 30) := by decide +kernel
theorem dX11_word_36 : decode cX11_word 36 = .ok (.aload_n 0, 1) := by decide +kernel
theorem dX11_word_37 : decode cX11_word 37 = .ok (.getfield 19, 3) := by decide +kernel
theorem dX11_word_40 : decode cX11_word 40 = .ok (.getfield 145, 3) := by decide +kernel
theorem dX11_word_43 : decode cX11_word 43 = .ok (.iload_n 1, 1) := by decide +kernel
theorem dX11_word_44 : decode cX11_word 44 = .ok (.iaload, 1) := by decide +kernel
theorem dX11_word_45 : decode cX11_word 45 = .ok (.ireturn, 1) := by decide +kernel
theorem dX11_word_46 : decode cX11_word 46 = .ok (.aload_n 0, 1) := by decide +kernel
theorem dX11_word_47 : decode cX11_word 47 = .ok (.getfield 19, 3) := by decide +kernel
theorem dX11_word_50 : decode cX11_word 50 = .ok (.getfield 149, 3) := by decide +kernel
theorem dX11_word_53 : decode cX11_word 53 = .ok (.iload_n 1, 1) := by decide +kernel
theorem dX11_word_54 : decode cX11_word 54 = .ok (.iaload, 1) := by decide +kernel
theorem dX11_word_55 : decode cX11_word 55 = .ok (.ireturn, 1) := by decide +kernel
theorem dX11_word_56 : decode cX11_word 56 = .ok (.aload_n 0, 1) := by decide +kernel
theorem dX11_word_57 : decode cX11_word 57 = .ok (.getfield 65, 3) := by decide +kernel
theorem dX11_word_60 : decode cX11_word 60 = .ok (.iload_n 1, 1) := by decide +kernel
theorem dX11_word_61 : decode cX11_word 61 = .ok (.invokevirtual 152, 3) := by decide +kernel
theorem dX11_word_64 : decode cX11_word 64 = .ok (.ireturn, 1) := by decide +kernel
theorem dX11_word_65 : decode cX11_word 65 = .ok (.aload_n 0, 1) := by decide +kernel
theorem dX11_word_66 : decode cX11_word 66 = .ok (.getfield 65, 3) := by decide +kernel
theorem dX11_word_69 : decode cX11_word 69 = .ok (.iload_n 1, 1) := by decide +kernel
theorem dX11_word_70 : decode cX11_word 70 = .ok (.invokevirtual 156, 3) := by decide +kernel
theorem dX11_word_73 : decode cX11_word 73 = .ok (.ireturn, 1) := by decide +kernel
theorem dX11_word_74 : decode cX11_word 74 = .ok (.new 159, 3) := by decide +kernel
theorem dX11_word_77 : decode cX11_word 77 = .ok (.dup, 1) := by decide +kernel
theorem dX11_word_78 : decode cX11_word 78 = .ok (.ldc 161, 2) := by decide +kernel
theorem dX11_word_80 : decode cX11_word 80 = .ok (.invokespecial 163, 3) := by decide +kernel
theorem dX11_word_83 : decode cX11_word 83 = .ok (.athrow, 1) := by decide +kernel
theorem dX11_letter_0 : decode cX11_letter 0 = .ok (.aload_n 0, 1) := by decide +kernel
theorem dX11_letter_1 : decode cX11_letter 1 = .ok (.iload_n 1, 1) := by decide +kernel
theorem dX11_letter_2 : decode cX11_letter 2 = .ok (.invokevirtual 142, 3) := by decide +kernel
theorem dX11_letter_5 : decode cX11_letter 5 = .ok (.aload_n 0, 1) := by decide +kernel
theorem dX11_letter_6 : decode cX11_letter 6 = .ok (.getfield 19, 3) := by decide +kernel
theorem dX11_letter_9 : decode cX11_letter 9 = .ok (.iload_n 1, 1) := by decide +kernel
theorem dX11_letter_10 : decode cX11_letter 10 = .ok (.iload_n 2, 1) := by decide +kernel
theorem dX11_letter_11 : decode cX11_letter 11 = .ok (.invokevirtual 164, 3) := by decide +kernel
theorem dX11_letter_14 : decode cX11_letter 14 = .ok (.ireturn, 1) := by decide +kernel
theorem dX11_writer_0 : decode cX11_writer 0 = .ok (.aload_n 0, 1) := by decide +kernel
theorem dX11_writer_1 : decode cX11_writer 1 = .ok (.iload_n 1, 1) := by decide +kernel
theorem dX11_writer_2 : decode cX11_writer 2 = .ok (.invokevirtual 168, 3) := by decide +kernel
theorem dX11_writer_5 : decode cX11_writer 5 = .ok (.iload_n 2, 1) := by decide +kernel
theorem dX11_writer_6 : decode cX11_writer 6 = .ok (.tableswitch 207 0 13 #[70, 80, 90, 100, 110, 119, 128, 137, 146, 162, 171, 180, 189, 198], 70) := by decide +kernel
theorem dX11_writer_76 : decode cX11_writer 76 = .ok (.aload_n 0, 1) := by decide +kernel
theorem dX11_writer_77 : decode cX11_writer 77 = .ok (.getfield 19, 3) := by decide +kernel
theorem dX11_writer_80 : decode cX11_writer 80 = .ok (.getfield 171, 3) := by decide +kernel
theorem dX11_writer_83 : decode cX11_writer 83 = .ok (.iload_n 1, 1) := by decide +kernel
theorem dX11_writer_84 : decode cX11_writer 84 = .ok (.iaload, 1) := by decide +kernel
theorem dX11_writer_85 : decode cX11_writer 85 = .ok (.ireturn, 1) := by decide +kernel
theorem dX11_writer_86 : decode cX11_writer 86 = .ok (.aload_n 0, 1) := by decide +kernel
theorem dX11_writer_87 : decode cX11_writer 87 = .ok (.getfield 19, 3) := by decide +kernel
theorem dX11_writer_90 : decode cX11_writer 90 = .ok (.getfield 174, 3) := by decide +kernel
theorem dX11_writer_93 : decode cX11_writer 93 = .ok (.iload_n 1, 1) := by decide +kernel
theorem dX11_writer_94 : decode cX11_writer 94 = .ok (.iaload, 1) := by decide +kernel
theorem dX11_writer_95 : decode cX11_writer 95 = .ok (.ireturn, 1) := by decide +kernel
theorem dX11_writer_96 : decode cX11_writer 96 = .ok (.aload_n 0, 1) := by decide +kernel
theorem dX11_writer_97 : decode cX11_writer 97 = .ok (.getfield 19, 3) := by decide +kernel
theorem dX11_writer_100 : decode cX11_writer 100 = .ok (.getfield 177, 3) := by decide +kernel
theorem dX11_writer_103 : decode cX11_writer 103 = .ok (.iload_n 1, 1) := by decide +kernel
theorem dX11_writer_104 : decode cX11_writer 104 = .ok (.iaload, 1) := by decide +kernel
theorem dX11_writer_105 : decode cX11_writer 105 = .ok (.ireturn, 1) := by decide +kernel
theorem dX11_writer_106 : decode cX11_writer 106 = .ok (.aload_n 0, 1) := by decide +kernel
theorem dX11_writer_107 : decode cX11_writer 107 = .ok (.getfield 19, 3) := by decide +kernel
theorem dX11_writer_110 : decode cX11_writer 110 = .ok (.getfield 180, 3) := by decide +kernel
theorem dX11_writer_113 : decode cX11_writer 113 = .ok (.iload_n 1, 1) := by decide +kernel
theorem dX11_writer_114 : decode cX11_writer 114 = .ok (.iaload, 1) := by decide +kernel
theorem dX11_writer_115 : decode cX11_writer 115 = .ok (.ireturn, 1) := by decide +kernel
theorem dX11_writer_116 : decode cX11_writer 116 = .ok (.aload_n 0, 1) := by decide +kernel
theorem dX11_writer_117 : decode cX11_writer 117 = .ok (.iload_n 1, 1) := by decide +kernel
theorem dX11_writer_118 : decode cX11_writer 118 = .ok (.invokevirtual 183, 3) := by decide +kernel
theorem dX11_writer_121 : decode cX11_writer 121 = .ok (.invokevirtual 187, 3) := by decide +kernel
theorem dX11_writer_124 : decode cX11_writer 124 = .ok (.ireturn, 1) := by decide +kernel
theorem dX11_writer_125 : decode cX11_writer 125 = .ok (.aload_n 0, 1) := by decide +kernel
theorem dX11_writer_126 : decode cX11_writer 126 = .ok (.iload_n 1, 1) := by decide +kernel
theorem dX11_writer_127 : decode cX11_writer 127 = .ok (.invokevirtual 183, 3) := by decide +kernel
theorem dX11_writer_130 : decode cX11_writer 130 = .ok (.invokevirtual 191, 3) := by decide +kernel
theorem dX11_writer_133 : decode cX11_writer 133 = .ok (.ireturn, 1) := by decide +kernel
theorem dX11_writer_134 : decode cX11_writer 134 = .ok (.aload_n 0, 1) := by decide +kernel
theorem dX11_writer_135 : decode cX11_writer 135 = .ok (.iload_n 1, 1) := by decide +kernel
theorem dX11_writer_136 : decode cX11_writer 136 = .ok (.invokevirtual 183, 3) := by decide +kernel
theorem dX11_writer_139 : decode cX11_writer 139 = .ok (.invokevirtual 194, 3) := by decide +kernel
theorem dX11_writer_142 : decode cX11_writer 142 = .ok (.ireturn, 1) := by decide +kernel
theorem dX11_writer_143 : decode cX11_writer 143 = .ok (.aload_n 0, 1) := by decide +kernel
theorem dX11_writer_144 : decode cX11_writer 144 = .ok (.getfield 81, 3) := by decide +kernel
theorem dX11_writer_147 : decode cX11_writer 147 = .ok (.iload_n 1, 1) := by decide +kernel
theorem dX11_writer_148 : decode cX11_writer 148 = .ok (.invokevirtual 197, 3) := by decide +kernel
theorem dX11_writer_151 : decode cX11_writer 151 = .ok (.ireturn, 1) := by decide +kernel
theorem dX11_writer_152 : decode cX11_writer 152 = .ok (.aload_n 0, 1) := by decide +kernel
theorem dX11_writer_153 : decode cX11_writer 153 = .ok (.getfield 81, 3) := by decide +kernel
theorem dX11_writer_156 : decode cX11_writer 156 = .ok (.iload_n 1, 1) := by decide +kernel
theorem dX11_writer_157 : decode cX11_writer 157 = .ok (.aload_n 0, 1) := by decide +kernel
theorem dX11_writer_158 : decode cX11_writer 158 = .ok (.getfield 19, 3) := by decide +kernel
theorem dX11_writer_161 : decode cX11_writer 161 = .ok (.getfield 200, 3) := by decide +kernel
theorem dX11_writer_164 : decode cX11_writer 164 = .ok (.invokevirtual 203, 3) := by decide +kernel
theorem dX11_writer_167 : decode cX11_writer 167 = .ok (.ireturn, 1) := by decide +kernel
theorem dX11_writer_168 : decode cX11_writer 168 = .ok (.aload_n 0, 1) := by decide +kernel
theorem dX11_writer_169 : decode cX11_writer 169 = .ok (.getfield 81, 3) := by decide +kernel
theorem dX11_writer_172 : decode cX11_writer 172 = .ok (.iload_n 1, 1) := by decide +kernel
theorem dX11_writer_173 : decode cX11_writer 173 = .ok (.invokevirtual 206, 3) := by decide +kernel
theorem dX11_writer_176 : decode cX11_writer 176 = .ok (.ireturn, 1) := by decide +kernel
theorem dX11_writer_177 : decode cX11_writer 177 = .ok (.aload_n 0, 1) := by decide +kernel
theorem dX11_writer_178 : decode cX11_writer 178 = .ok (.getfield 81, 3) := by decide +kernel
theorem dX11_writer_181 : decode cX11_writer 181 = .ok (.iload_n 1, 1) := by decide +kernel
theorem dX11_writer_182 : decode cX11_writer 182 = .ok (.invokevirtual 209, 3) := by decide +kernel
theorem dX11_writer_185 : decode cX11_writer 185 = .ok (.ireturn, 1) := by decide +kernel
theorem dX11_writer_186 : decode cX11_writer 186 = .ok (.aload_n 0, 1) := by decide +kernel
theorem dX11_writer_187 : decode cX11_writer 187 = .ok (.getfield 81, 3) := by decide +kernel
theorem dX11_writer_190 : decode cX11_writer 190 = .ok (.iload_n 1, 1) := by decide +kernel
theorem dX11_writer_191 : decode cX11_writer 191 = .ok (.invokevirtual 212, 3) := by decide +kernel
theorem dX11_writer_194 : decode cX11_writer 194 = .ok (.ireturn, 1) := by decide +kernel
theorem dX11_writer_195 : decode cX11_writer 195 = .ok (.aload_n 0, 1) := by decide +kernel
theorem dX11_writer_196 : decode cX11_writer 196 = .ok (.getfield 81, 3) := by decide +kernel
theorem dX11_writer_199 : decode cX11_writer 199 = .ok (.iload_n 1, 1) := by decide +kernel
theorem dX11_writer_200 : decode cX11_writer 200 = .ok (.invokevirtual 215, 3) := by decide +kernel
theorem dX11_writer_203 : decode cX11_writer 203 = .ok (.ireturn, 1) := by decide +kernel
theorem dX11_writer_204 : decode cX11_writer 204 = .ok (.aload_n 0, 1) := by decide +kernel
theorem dX11_writer_205 : decode cX11_writer 205 = .ok (.getfield 81, 3) := by decide +kernel
theorem dX11_writer_208 : decode cX11_writer 208 = .ok (.iload_n 1, 1) := by decide +kernel
theorem dX11_writer_209 : decode cX11_writer 209 = .ok (.invokevirtual 218, 3) := by decide +kernel
theorem dX11_writer_212 : decode cX11_writer 212 = .ok (.ireturn, 1) := by decide +kernel
theorem dX11_writer_213 : decode cX11_writer 213 = .ok (.new 159, 3) := by decide +kernel
theorem dX11_writer_216 : decode cX11_writer 216 = .ok (.dup, 1) := by decide +kernel
theorem dX11_writer_217 : decode cX11_writer 217 = .ok (.ldc 221, 2) := by decide +kernel
theorem dX11_writer_219 : decode cX11_writer 219 = .ok (.invokespecial 163, 3) := by decide +kernel
theorem dX11_writer_222 : decode cX11_writer 222 = .ok (.athrow, 1) := by decide +kernel
theorem dX11_speech_0 : decode cX11_speech 0 = .ok (.iload_n 1, 1) := by decide +kernel
theorem dX11_speech_1 : decode cX11_speech 1 = .ok (.ifCond .lt 14, 3) := by decide +kernel
theorem dX11_speech_4 : decode cX11_speech 4 = .ok (.iload_n 1, 1) := by decide +kernel
theorem dX11_speech_5 : decode cX11_speech 5 = .ok (.aload_n 0, 1) := by decide +kernel
theorem dX11_speech_6 : decode cX11_speech 6 = .ok (.getfield 19, 3) := by decide +kernel
theorem dX11_speech_9 : decode cX11_speech 9 = .ok (.getfield 223, 3) := by decide +kernel
theorem dX11_speech_12 : decode cX11_speech 12 = .ok (.if_icmp .lt 7, 3) := by decide +kernel
theorem dX11_speech_15 : decode cX11_speech 15 = .ok (.iconst (-1), 1) := by decide +kernel
theorem dX11_speech_16 : decode cX11_speech 16 = .ok (.goto 12, 3) := by decide +kernel
theorem dX11_speech_19 : decode cX11_speech 19 = .ok (.aload_n 0, 1) := by decide +kernel
theorem dX11_speech_20 : decode cX11_speech 20 = .ok (.getfield 19, 3) := by decide +kernel
theorem dX11_speech_23 : decode cX11_speech 23 = .ok (.getfield 226, 3) := by decide +kernel
theorem dX11_speech_26 : decode cX11_speech 26 = .ok (.iload_n 1, 1) := by decide +kernel
theorem dX11_speech_27 : decode cX11_speech 27 = .ok (.iaload, 1) := by decide +kernel
theorem dX11_speech_28 : decode cX11_speech 28 = .ok (.ireturn, 1) := by decide +kernel
theorem dX11_page_0 : decode cX11_page 0 = .ok (.aload_n 0, 1) := by decide +kernel
theorem dX11_page_1 : decode cX11_page 1 = .ok (.iload_n 1, 1) := by decide +kernel
theorem dX11_page_2 : decode cX11_page 2 = .ok (.invokevirtual 168, 3) := by decide +kernel
theorem dX11_page_5 : decode cX11_page 5 = .ok (.iload_n 2, 1) := by decide +kernel
theorem dX11_page_6 : decode cX11_page 6 = .ok (.ifCond .lt 14, 3) := by decide +kernel
theorem dX11_page_9 : decode cX11_page 9 = .ok (.iload_n 2, 1) := by decide +kernel
theorem dX11_page_10 : decode cX11_page 10 = .ok (.aload_n 0, 1) := by decide +kernel
theorem dX11_page_11 : decode cX11_page 11 = .ok (.getfield 19, 3) := by decide +kernel
theorem dX11_page_14 : decode cX11_page 14 = .ok (.getfield 229, 3) := by decide +kernel
theorem dX11_page_17 : decode cX11_page 17 = .ok (.if_icmp .lt 7, 3) := by decide +kernel
theorem dX11_page_20 : decode cX11_page 20 = .ok (.iconst (-1), 1) := by decide +kernel
theorem dX11_page_21 : decode cX11_page 21 = .ok (.goto 12, 3) := by decide +kernel
theorem dX11_page_24 : decode cX11_page 24 = .ok (.aload_n 0, 1) := by decide +kernel
theorem dX11_page_25 : decode cX11_page 25 = .ok (.getfield 19, 3) := by decide +kernel
theorem dX11_page_28 : decode cX11_page 28 = .ok (.iload_n 1, 1) := by decide +kernel
theorem dX11_page_29 : decode cX11_page 29 = .ok (.iload_n 2, 1) := by decide +kernel
theorem dX11_page_30 : decode cX11_page 30 = .ok (.invokevirtual 232, 3) := by decide +kernel
theorem dX11_page_33 : decode cX11_page 33 = .ok (.ireturn, 1) := by decide +kernel
theorem dX11_strokes_0 : decode cX11_strokes 0 = .ok (.aload_n 0, 1) := by decide +kernel
theorem dX11_strokes_1 : decode cX11_strokes 1 = .ok (.iload_n 1, 1) := by decide +kernel
theorem dX11_strokes_2 : decode cX11_strokes 2 = .ok (.invokevirtual 168, 3) := by decide +kernel
theorem dX11_strokes_5 : decode cX11_strokes 5 = .ok (.aload_n 0, 1) := by decide +kernel
theorem dX11_strokes_6 : decode cX11_strokes 6 = .ok (.iload_n 2, 1) := by decide +kernel
theorem dX11_strokes_7 : decode cX11_strokes 7 = .ok (.invokevirtual 142, 3) := by decide +kernel
theorem dX11_strokes_10 : decode cX11_strokes 10 = .ok (.aload_n 0, 1) := by decide +kernel
theorem dX11_strokes_11 : decode cX11_strokes 11 = .ok (.getfield 19, 3) := by decide +kernel
theorem dX11_strokes_14 : decode cX11_strokes 14 = .ok (.iload_n 2, 1) := by decide +kernel
theorem dX11_strokes_15 : decode cX11_strokes 15 = .ok (.aload_n 0, 1) := by decide +kernel
theorem dX11_strokes_16 : decode cX11_strokes 16 = .ok (.getfield 19, 3) := by decide +kernel
theorem dX11_strokes_19 : decode cX11_strokes 19 = .ok (.getfield 171, 3) := by decide +kernel
theorem dX11_strokes_22 : decode cX11_strokes 22 = .ok (.iload_n 1, 1) := by decide +kernel
theorem dX11_strokes_23 : decode cX11_strokes 23 = .ok (.iaload, 1) := by decide +kernel
theorem dX11_strokes_24 : decode cX11_strokes 24 = .ok (.invokevirtual 235, 3) := by decide +kernel
theorem dX11_strokes_27 : decode cX11_strokes 27 = .ok (.ireturn, 1) := by decide +kernel
theorem dX11_mark_0 : decode cX11_mark 0 = .ok (.aload_n 0, 1) := by decide +kernel
theorem dX11_mark_1 : decode cX11_mark 1 = .ok (.iload_n 1, 1) := by decide +kernel
theorem dX11_mark_2 : decode cX11_mark 2 = .ok (.invokevirtual 168, 3) := by decide +kernel
theorem dX11_mark_5 : decode cX11_mark 5 = .ok (.aload_n 0, 1) := by decide +kernel
theorem dX11_mark_6 : decode cX11_mark 6 = .ok (.iload_n 2, 1) := by decide +kernel
theorem dX11_mark_7 : decode cX11_mark 7 = .ok (.invokevirtual 142, 3) := by decide +kernel
theorem dX11_mark_10 : decode cX11_mark 10 = .ok (.iconst 0, 1) := by decide +kernel
theorem dX11_mark_11 : decode cX11_mark 11 = .ok (.istore 4, 2) := by decide +kernel
theorem dX11_mark_13 : decode cX11_mark 13 = .ok (.iconst 0, 1) := by decide +kernel
theorem dX11_mark_14 : decode cX11_mark 14 = .ok (.istore 5, 2) := by decide +kernel
theorem dX11_mark_16 : decode cX11_mark 16 = .ok (.iload 5, 2) := by decide +kernel
theorem dX11_mark_18 : decode cX11_mark 18 = .ok (.aload_n 0, 1) := by decide +kernel
theorem dX11_mark_19 : decode cX11_mark 19 = .ok (.getfield 19, 3) := by decide +kernel
theorem dX11_mark_22 : decode cX11_mark 22 = .ok (.getfield 145, 3) := by decide +kernel
theorem dX11_mark_25 : decode cX11_mark 25 = .ok (.iload_n 2, 1) := by decide +kernel
theorem dX11_mark_26 : decode cX11_mark 26 = .ok (.iaload, 1) := by decide +kernel
theorem dX11_mark_27 : decode cX11_mark 27 = .ok (.if_icmp .ge 50, 3) := by decide +kernel
theorem dX11_mark_30 : decode cX11_mark 30 = .ok (.aload_n 0, 1) := by decide +kernel
theorem dX11_mark_31 : decode cX11_mark 31 = .ok (.getfield 19, 3) := by decide +kernel
theorem dX11_mark_34 : decode cX11_mark 34 = .ok (.iload_n 2, 1) := by decide +kernel
theorem dX11_mark_35 : decode cX11_mark 35 = .ok (.iload 5, 2) := by decide +kernel
theorem dX11_mark_37 : decode cX11_mark 37 = .ok (.invokevirtual 164, 3) := by decide +kernel
theorem dX11_mark_40 : decode cX11_mark 40 = .ok (.istore 6, 2) := by decide +kernel
theorem dX11_mark_42 : decode cX11_mark 42 = .ok (.aload_n 0, 1) := by decide +kernel
theorem dX11_mark_43 : decode cX11_mark 43 = .ok (.getfield 19, 3) := by decide +kernel
theorem dX11_mark_46 : decode cX11_mark 46 = .ok (.getfield 171, 3) := by decide +kernel
theorem dX11_mark_49 : decode cX11_mark 49 = .ok (.iload_n 1, 1) := by decide +kernel
theorem dX11_mark_50 : decode cX11_mark 50 = .ok (.iaload, 1) := by decide +kernel
theorem dX11_mark_51 : decode cX11_mark 51 = .ok (.iload 6, 2) := by decide +kernel
theorem dX11_mark_53 : decode cX11_mark 53 = .ok (.ishr, 1) := by decide +kernel
theorem dX11_mark_54 : decode cX11_mark 54 = .ok (.iconst 1, 1) := by decide +kernel
theorem dX11_mark_55 : decode cX11_mark 55 = .ok (.iand, 1) := by decide +kernel
theorem dX11_mark_56 : decode cX11_mark 56 = .ok (.ifCond .ne 15, 3) := by decide +kernel
theorem dX11_mark_59 : decode cX11_mark 59 = .ok (.iload 4, 2) := by decide +kernel
theorem dX11_mark_61 : decode cX11_mark 61 = .ok (.iload_n 3, 1) := by decide +kernel
theorem dX11_mark_62 : decode cX11_mark 62 = .ok (.if_icmp .ne 6, 3) := by decide +kernel
theorem dX11_mark_65 : decode cX11_mark 65 = .ok (.iload 6, 2) := by decide +kernel
theorem dX11_mark_67 : decode cX11_mark 67 = .ok (.ireturn, 1) := by decide +kernel
theorem dX11_mark_68 : decode cX11_mark 68 = .ok (.iinc 4 1, 3) := by decide +kernel
theorem dX11_mark_71 : decode cX11_mark 71 = .ok (.iinc 5 1, 3) := by decide +kernel
theorem dX11_mark_74 : decode cX11_mark 74 = .ok (.goto (-58), 3) := by decide +kernel
theorem dX11_mark_77 : decode cX11_mark 77 = .ok (.iconst (-1), 1) := by decide +kernel
theorem dX11_mark_78 : decode cX11_mark 78 = .ok (.ireturn, 1) := by decide +kernel
theorem dX11_alike_0 : decode cX11_alike 0 = .ok (.aload_n 0, 1) := by decide +kernel
theorem dX11_alike_1 : decode cX11_alike 1 = .ok (.iload_n 1, 1) := by decide +kernel
theorem dX11_alike_2 : decode cX11_alike 2 = .ok (.invokevirtual 168, 3) := by decide +kernel
theorem dX11_alike_5 : decode cX11_alike 5 = .ok (.aload_n 0, 1) := by decide +kernel
theorem dX11_alike_6 : decode cX11_alike 6 = .ok (.iload_n 2, 1) := by decide +kernel
theorem dX11_alike_7 : decode cX11_alike 7 = .ok (.invokevirtual 142, 3) := by decide +kernel
theorem dX11_alike_10 : decode cX11_alike 10 = .ok (.aload_n 0, 1) := by decide +kernel
theorem dX11_alike_11 : decode cX11_alike 11 = .ok (.iload_n 1, 1) := by decide +kernel
theorem dX11_alike_12 : decode cX11_alike 12 = .ok (.invokevirtual 183, 3) := by decide +kernel
theorem dX11_alike_15 : decode cX11_alike 15 = .ok (.iload_n 2, 1) := by decide +kernel
theorem dX11_alike_16 : decode cX11_alike 16 = .ok (.invokevirtual 238, 3) := by decide +kernel
theorem dX11_alike_19 : decode cX11_alike 19 = .ok (.ireturn, 1) := by decide +kernel
theorem dX11_reads_0 : decode cX11_reads 0 = .ok (.aload_n 0, 1) := by decide +kernel
theorem dX11_reads_1 : decode cX11_reads 1 = .ok (.iload_n 1, 1) := by decide +kernel
theorem dX11_reads_2 : decode cX11_reads 2 = .ok (.invokevirtual 168, 3) := by decide +kernel
theorem dX11_reads_5 : decode cX11_reads 5 = .ok (.aload_n 0, 1) := by decide +kernel
theorem dX11_reads_6 : decode cX11_reads 6 = .ok (.iload_n 2, 1) := by decide +kernel
theorem dX11_reads_7 : decode cX11_reads 7 = .ok (.invokevirtual 142, 3) := by decide +kernel
theorem dX11_reads_10 : decode cX11_reads 10 = .ok (.aload_n 0, 1) := by decide +kernel
theorem dX11_reads_11 : decode cX11_reads 11 = .ok (.iload_n 1, 1) := by decide +kernel
theorem dX11_reads_12 : decode cX11_reads 12 = .ok (.invokevirtual 183, 3) := by decide +kernel
theorem dX11_reads_15 : decode cX11_reads 15 = .ok (.iload_n 2, 1) := by decide +kernel
theorem dX11_reads_16 : decode cX11_reads 16 = .ok (.invokevirtual 241, 3) := by decide +kernel
theorem dX11_reads_19 : decode cX11_reads 19 = .ok (.ireturn, 1) := by decide +kernel
theorem dX11_keepsUp_0 : decode cX11_keepsUp 0 = .ok (.aload_n 0, 1) := by decide +kernel
theorem dX11_keepsUp_1 : decode cX11_keepsUp 1 = .ok (.iload_n 1, 1) := by decide +kernel
theorem dX11_keepsUp_2 : decode cX11_keepsUp 2 = .ok (.invokevirtual 168, 3) := by decide +kernel
theorem dX11_keepsUp_5 : decode cX11_keepsUp 5 = .ok (.aload_n 0, 1) := by decide +kernel
theorem dX11_keepsUp_6 : decode cX11_keepsUp 6 = .ok (.iload_n 2, 1) := by decide +kernel
theorem dX11_keepsUp_7 : decode cX11_keepsUp 7 = .ok (.invokevirtual 142, 3) := by decide +kernel
theorem dX11_keepsUp_10 : decode cX11_keepsUp 10 = .ok (.aload_n 0, 1) := by decide +kernel
theorem dX11_keepsUp_11 : decode cX11_keepsUp 11 = .ok (.getfield 56, 3) := by decide +kernel
theorem dX11_keepsUp_14 : decode cX11_keepsUp 14 = .ok (.aload_n 0, 1) := by decide +kernel
theorem dX11_keepsUp_15 : decode cX11_keepsUp 15 = .ok (.getfield 19, 3) := by decide +kernel
theorem dX11_keepsUp_18 : decode cX11_keepsUp 18 = .ok (.iload_n 1, 1) := by decide +kernel
theorem dX11_keepsUp_19 : decode cX11_keepsUp 19 = .ok (.iload_n 2, 1) := by decide +kernel
theorem dX11_keepsUp_20 : decode cX11_keepsUp 20 = .ok (.invokevirtual 244, 3) := by decide +kernel
theorem dX11_keepsUp_23 : decode cX11_keepsUp 23 = .ok (.aload_n 0, 1) := by decide +kernel
theorem dX11_keepsUp_24 : decode cX11_keepsUp 24 = .ok (.getfield 56, 3) := by decide +kernel
theorem dX11_keepsUp_27 : decode cX11_keepsUp 27 = .ok (.aload_n 0, 1) := by decide +kernel
theorem dX11_keepsUp_28 : decode cX11_keepsUp 28 = .ok (.getfield 19, 3) := by decide +kernel
theorem dX11_keepsUp_31 : decode cX11_keepsUp 31 = .ok (.invokevirtual 248, 3) := by decide +kernel
theorem dX11_keepsUp_34 : decode cX11_keepsUp 34 = .ok (.ireturn, 1) := by decide +kernel
theorem dX11_slips_0 : decode cX11_slips 0 = .ok (.aload_n 0, 1) := by decide +kernel
theorem dX11_slips_1 : decode cX11_slips 1 = .ok (.iload_n 1, 1) := by decide +kernel
theorem dX11_slips_2 : decode cX11_slips 2 = .ok (.invokevirtual 168, 3) := by decide +kernel
theorem dX11_slips_5 : decode cX11_slips 5 = .ok (.aload_n 0, 1) := by decide +kernel
theorem dX11_slips_6 : decode cX11_slips 6 = .ok (.iload_n 2, 1) := by decide +kernel
theorem dX11_slips_7 : decode cX11_slips 7 = .ok (.invokevirtual 142, 3) := by decide +kernel
theorem dX11_slips_10 : decode cX11_slips 10 = .ok (.aload_n 0, 1) := by decide +kernel
theorem dX11_slips_11 : decode cX11_slips 11 = .ok (.getfield 56, 3) := by decide +kernel
theorem dX11_slips_14 : decode cX11_slips 14 = .ok (.aload_n 0, 1) := by decide +kernel
theorem dX11_slips_15 : decode cX11_slips 15 = .ok (.getfield 19, 3) := by decide +kernel
theorem dX11_slips_18 : decode cX11_slips 18 = .ok (.iload_n 1, 1) := by decide +kernel
theorem dX11_slips_19 : decode cX11_slips 19 = .ok (.iload_n 2, 1) := by decide +kernel
theorem dX11_slips_20 : decode cX11_slips 20 = .ok (.invokevirtual 244, 3) := by decide +kernel
theorem dX11_slips_23 : decode cX11_slips 23 = .ok (.aload_n 0, 1) := by decide +kernel
theorem dX11_slips_24 : decode cX11_slips 24 = .ok (.getfield 56, 3) := by decide +kernel
theorem dX11_slips_27 : decode cX11_slips 27 = .ok (.aload_n 0, 1) := by decide +kernel
theorem dX11_slips_28 : decode cX11_slips 28 = .ok (.getfield 19, 3) := by decide +kernel
theorem dX11_slips_31 : decode cX11_slips 31 = .ok (.invokevirtual 252, 3) := by decide +kernel
theorem dX11_slips_34 : decode cX11_slips 34 = .ok (.ireturn, 1) := by decide +kernel
theorem dX11_minutes_0 : decode cX11_minutes 0 = .ok (.aload_n 0, 1) := by decide +kernel
theorem dX11_minutes_1 : decode cX11_minutes 1 = .ok (.iload_n 1, 1) := by decide +kernel
theorem dX11_minutes_2 : decode cX11_minutes 2 = .ok (.iconst 1, 1) := by decide +kernel
theorem dX11_minutes_3 : decode cX11_minutes 3 = .ok (.bipush 60, 2) := by decide +kernel
theorem dX11_minutes_5 : decode cX11_minutes 5 = .ok (.invokevirtual 256, 3) := by decide +kernel
theorem dX11_minutes_8 : decode cX11_minutes 8 = .ok (.aload_n 0, 1) := by decide +kernel
theorem dX11_minutes_9 : decode cX11_minutes 9 = .ok (.invokevirtual 260, 3) := by decide +kernel
theorem dX11_minutes_12 : decode cX11_minutes 12 = .ok (.aload_n 0, 1) := by decide +kernel
theorem dX11_minutes_13 : decode cX11_minutes 13 = .ok (.getfield 56, 3) := by decide +kernel
theorem dX11_minutes_16 : decode cX11_minutes 16 = .ok (.aload_n 0, 1) := by decide +kernel
theorem dX11_minutes_17 : decode cX11_minutes 17 = .ok (.getfield 19, 3) := by decide +kernel
theorem dX11_minutes_20 : decode cX11_minutes 20 = .ok (.iload_n 1, 1) := by decide +kernel
theorem dX11_minutes_21 : decode cX11_minutes 21 = .ok (.iconst 1, 1) := by decide +kernel
theorem dX11_minutes_22 : decode cX11_minutes 22 = .ok (.invokevirtual 263, 3) := by decide +kernel
theorem dX11_minutes_25 : decode cX11_minutes 25 = .ok (.ireturn, 1) := by decide +kernel
theorem dX11_speak_0 : decode cX11_speak 0 = .ok (.aload_n 0, 1) := by decide +kernel
theorem dX11_speak_1 : decode cX11_speak 1 = .ok (.iload_n 1, 1) := by decide +kernel
theorem dX11_speak_2 : decode cX11_speak 2 = .ok (.invokevirtual 142, 3) := by decide +kernel
theorem dX11_speak_5 : decode cX11_speak 5 = .ok (.aload_n 0, 1) := by decide +kernel
theorem dX11_speak_6 : decode cX11_speak 6 = .ok (.getfield 19, 3) := by decide +kernel
theorem dX11_speak_9 : decode cX11_speak 9 = .ok (.getfield 223, 3) := by decide +kernel
theorem dX11_speak_12 : decode cX11_speak 12 = .ok (.bipush 20, 2) := by decide +kernel
theorem dX11_speak_14 : decode cX11_speak 14 = .ok (.if_icmp .lt 14, 3) := by decide +kernel
theorem dX11_speak_17 : decode cX11_speak 17 = .ok (.new 267, 3) := by decide +kernel
theorem dX11_speak_20 : decode cX11_speak 20 = .ok (.dup, 1) := by decide +kernel
theorem dX11_speak_21 : decode cX11_speak 21 = .ok (.ldc_w 269, 3) := by decide +kernel
theorem dX11_speak_24 : decode cX11_speak 24 = .ok (.invokespecial 271, 3) := by decide +kernel
theorem dX11_speak_27 : decode cX11_speak 27 = .ok (.athrow, 1) := by decide +kernel
theorem dX11_speak_28 : decode cX11_speak 28 = .ok (.aload_n 0, 1) := by decide +kernel
theorem dX11_speak_29 : decode cX11_speak 29 = .ok (.invokevirtual 260, 3) := by decide +kernel
theorem dX11_speak_32 : decode cX11_speak 32 = .ok (.aload_n 0, 1) := by decide +kernel
theorem dX11_speak_33 : decode cX11_speak 33 = .ok (.getfield 19, 3) := by decide +kernel
theorem dX11_speak_36 : decode cX11_speak 36 = .ok (.getfield 226, 3) := by decide +kernel
theorem dX11_speak_39 : decode cX11_speak 39 = .ok (.aload_n 0, 1) := by decide +kernel
theorem dX11_speak_40 : decode cX11_speak 40 = .ok (.getfield 19, 3) := by decide +kernel
theorem dX11_speak_43 : decode cX11_speak 43 = .ok (.getfield 223, 3) := by decide +kernel
theorem dX11_speak_46 : decode cX11_speak 46 = .ok (.iload_n 1, 1) := by decide +kernel
theorem dX11_speak_47 : decode cX11_speak 47 = .ok (.iastore, 1) := by decide +kernel
theorem dX11_speak_48 : decode cX11_speak 48 = .ok (.aload_n 0, 1) := by decide +kernel
theorem dX11_speak_49 : decode cX11_speak 49 = .ok (.getfield 19, 3) := by decide +kernel
theorem dX11_speak_52 : decode cX11_speak 52 = .ok (.dup, 1) := by decide +kernel
theorem dX11_speak_53 : decode cX11_speak 53 = .ok (.getfield 223, 3) := by decide +kernel
theorem dX11_speak_56 : decode cX11_speak 56 = .ok (.iconst 1, 1) := by decide +kernel
theorem dX11_speak_57 : decode cX11_speak 57 = .ok (.iadd, 1) := by decide +kernel
theorem dX11_speak_58 : decode cX11_speak 58 = .ok (.putfield 223, 3) := by decide +kernel
theorem dX11_speak_61 : decode cX11_speak 61 = .ok (.aload_n 0, 1) := by decide +kernel
theorem dX11_speak_62 : decode cX11_speak 62 = .ok (.getfield 19, 3) := by decide +kernel
theorem dX11_speak_65 : decode cX11_speak 65 = .ok (.getfield 223, 3) := by decide +kernel
theorem dX11_speak_68 : decode cX11_speak 68 = .ok (.ireturn, 1) := by decide +kernel
theorem dX11_leave_0 : decode cX11_leave 0 = .ok (.aload_n 0, 1) := by decide +kernel
theorem dX11_leave_1 : decode cX11_leave 1 = .ok (.iload_n 1, 1) := by decide +kernel
theorem dX11_leave_2 : decode cX11_leave 2 = .ok (.invokevirtual 168, 3) := by decide +kernel
theorem dX11_leave_5 : decode cX11_leave 5 = .ok (.aload_n 0, 1) := by decide +kernel
theorem dX11_leave_6 : decode cX11_leave 6 = .ok (.iload_n 2, 1) := by decide +kernel
theorem dX11_leave_7 : decode cX11_leave 7 = .ok (.invokevirtual 272, 3) := by decide +kernel
theorem dX11_leave_10 : decode cX11_leave 10 = .ok (.aload_n 0, 1) := by decide +kernel
theorem dX11_leave_11 : decode cX11_leave 11 = .ok (.invokevirtual 260, 3) := by decide +kernel
theorem dX11_leave_14 : decode cX11_leave 14 = .ok (.aload_n 0, 1) := by decide +kernel
theorem dX11_leave_15 : decode cX11_leave 15 = .ok (.getfield 19, 3) := by decide +kernel
theorem dX11_leave_18 : decode cX11_leave 18 = .ok (.getfield 171, 3) := by decide +kernel
theorem dX11_leave_21 : decode cX11_leave 21 = .ok (.iload_n 1, 1) := by decide +kernel
theorem dX11_leave_22 : decode cX11_leave 22 = .ok (.iaload, 1) := by decide +kernel
theorem dX11_leave_23 : decode cX11_leave 23 = .ok (.iload_n 2, 1) := by decide +kernel
theorem dX11_leave_24 : decode cX11_leave 24 = .ok (.ishr, 1) := by decide +kernel
theorem dX11_leave_25 : decode cX11_leave 25 = .ok (.iconst 1, 1) := by decide +kernel
theorem dX11_leave_26 : decode cX11_leave 26 = .ok (.iand, 1) := by decide +kernel
theorem dX11_leave_27 : decode cX11_leave 27 = .ok (.iconst 1, 1) := by decide +kernel
theorem dX11_leave_28 : decode cX11_leave 28 = .ok (.if_icmp .ne 7, 3) := by decide +kernel
theorem dX11_leave_31 : decode cX11_leave 31 = .ok (.iconst 1, 1) := by decide +kernel
theorem dX11_leave_32 : decode cX11_leave 32 = .ok (.goto 4, 3) := by decide +kernel
theorem dX11_leave_35 : decode cX11_leave 35 = .ok (.iconst 0, 1) := by decide +kernel
theorem dX11_leave_36 : decode cX11_leave 36 = .ok (.istore 4, 2) := by decide +kernel
theorem dX11_leave_38 : decode cX11_leave 38 = .ok (.iload 4, 2) := by decide +kernel
theorem dX11_leave_40 : decode cX11_leave 40 = .ok (.iload_n 3, 1) := by decide +kernel
theorem dX11_leave_41 : decode cX11_leave 41 = .ok (.if_icmp .eq 18, 3) := by decide +kernel
theorem dX11_leave_44 : decode cX11_leave 44 = .ok (.aload_n 0, 1) := by decide +kernel
theorem dX11_leave_45 : decode cX11_leave 45 = .ok (.getfield 19, 3) := by decide +kernel
theorem dX11_leave_48 : decode cX11_leave 48 = .ok (.getfield 171, 3) := by decide +kernel
theorem dX11_leave_51 : decode cX11_leave 51 = .ok (.iload_n 1, 1) := by decide +kernel
theorem dX11_leave_52 : decode cX11_leave 52 = .ok (.dup2, 1) := by decide +kernel
theorem dX11_leave_53 : decode cX11_leave 53 = .ok (.iaload, 1) := by decide +kernel
theorem dX11_leave_54 : decode cX11_leave 54 = .ok (.iconst 1, 1) := by decide +kernel
theorem dX11_leave_55 : decode cX11_leave 55 = .ok (.iload_n 2, 1) := by decide +kernel
theorem dX11_leave_56 : decode cX11_leave 56 = .ok (.ishl, 1) := by decide +kernel
theorem dX11_leave_57 : decode cX11_leave 57 = .ok (.ixor, 1) := by decide +kernel
theorem dX11_leave_58 : decode cX11_leave 58 = .ok (.iastore, 1) := by decide +kernel
theorem dX11_leave_59 : decode cX11_leave 59 = .ok (.iload 4, 2) := by decide +kernel
theorem dX11_leave_61 : decode cX11_leave 61 = .ok (.iload_n 3, 1) := by decide +kernel
theorem dX11_leave_62 : decode cX11_leave 62 = .ok (.if_icmp .eq 7, 3) := by decide +kernel
theorem dX11_leave_65 : decode cX11_leave 65 = .ok (.iconst 1, 1) := by decide +kernel
theorem dX11_leave_66 : decode cX11_leave 66 = .ok (.goto 4, 3) := by decide +kernel
theorem dX11_leave_69 : decode cX11_leave 69 = .ok (.iconst 0, 1) := by decide +kernel
theorem dX11_leave_70 : decode cX11_leave 70 = .ok (.ireturn, 1) := by decide +kernel
theorem dX11_learn_0 : decode cX11_learn 0 = .ok (.aload_n 0, 1) := by decide +kernel
theorem dX11_learn_1 : decode cX11_learn 1 = .ok (.iload_n 1, 1) := by decide +kernel
theorem dX11_learn_2 : decode cX11_learn 2 = .ok (.invokevirtual 168, 3) := by decide +kernel
theorem dX11_learn_5 : decode cX11_learn 5 = .ok (.aload_n 0, 1) := by decide +kernel
theorem dX11_learn_6 : decode cX11_learn 6 = .ok (.invokevirtual 260, 3) := by decide +kernel
theorem dX11_learn_9 : decode cX11_learn 9 = .ok (.aload_n 0, 1) := by decide +kernel
theorem dX11_learn_10 : decode cX11_learn 10 = .ok (.getfield 19, 3) := by decide +kernel
theorem dX11_learn_13 : decode cX11_learn 13 = .ok (.getfield 177, 3) := by decide +kernel
theorem dX11_learn_16 : decode cX11_learn 16 = .ok (.iload_n 1, 1) := by decide +kernel
theorem dX11_learn_17 : decode cX11_learn 17 = .ok (.aload_n 0, 1) := by decide +kernel
theorem dX11_learn_18 : decode cX11_learn 18 = .ok (.getfield 19, 3) := by decide +kernel
theorem dX11_learn_21 : decode cX11_learn 21 = .ok (.getfield 177, 3) := by decide +kernel
theorem dX11_learn_24 : decode cX11_learn 24 = .ok (.iload_n 1, 1) := by decide +kernel
theorem dX11_learn_25 : decode cX11_learn 25 = .ok (.iaload, 1) := by decide +kernel
theorem dX11_learn_26 : decode cX11_learn 26 = .ok (.iconst 1, 1) := by decide +kernel
theorem dX11_learn_27 : decode cX11_learn 27 = .ok (.iadd, 1) := by decide +kernel
theorem dX11_learn_28 : decode cX11_learn 28 = .ok (.bipush 9, 2) := by decide +kernel
theorem dX11_learn_30 : decode cX11_learn 30 = .ok (.invokestatic 275, 3) := by decide +kernel
theorem dX11_learn_33 : decode cX11_learn 33 = .ok (.iastore, 1) := by decide +kernel
theorem dX11_learn_34 : decode cX11_learn 34 = .ok (.aload_n 0, 1) := by decide +kernel
theorem dX11_learn_35 : decode cX11_learn 35 = .ok (.getfield 19, 3) := by decide +kernel
theorem dX11_learn_38 : decode cX11_learn 38 = .ok (.getfield 177, 3) := by decide +kernel
theorem dX11_learn_41 : decode cX11_learn 41 = .ok (.iload_n 1, 1) := by decide +kernel
theorem dX11_learn_42 : decode cX11_learn 42 = .ok (.iaload, 1) := by decide +kernel
theorem dX11_learn_43 : decode cX11_learn 43 = .ok (.ireturn, 1) := by decide +kernel
theorem dX11_rest_0 : decode cX11_rest 0 = .ok (.aload_n 0, 1) := by decide +kernel
theorem dX11_rest_1 : decode cX11_rest 1 = .ok (.iload_n 1, 1) := by decide +kernel
theorem dX11_rest_2 : decode cX11_rest 2 = .ok (.invokevirtual 168, 3) := by decide +kernel
theorem dX11_rest_5 : decode cX11_rest 5 = .ok (.aload_n 0, 1) := by decide +kernel
theorem dX11_rest_6 : decode cX11_rest 6 = .ok (.invokevirtual 260, 3) := by decide +kernel
theorem dX11_rest_9 : decode cX11_rest 9 = .ok (.aload_n 0, 1) := by decide +kernel
theorem dX11_rest_10 : decode cX11_rest 10 = .ok (.getfield 19, 3) := by decide +kernel
theorem dX11_rest_13 : decode cX11_rest 13 = .ok (.getfield 180, 3) := by decide +kernel
theorem dX11_rest_16 : decode cX11_rest 16 = .ok (.iload_n 1, 1) := by decide +kernel
theorem dX11_rest_17 : decode cX11_rest 17 = .ok (.iaload, 1) := by decide +kernel
theorem dX11_rest_18 : decode cX11_rest 18 = .ok (.istore_n 2, 1) := by decide +kernel
theorem dX11_rest_19 : decode cX11_rest 19 = .ok (.aload_n 0, 1) := by decide +kernel
theorem dX11_rest_20 : decode cX11_rest 20 = .ok (.getfield 19, 3) := by decide +kernel
theorem dX11_rest_23 : decode cX11_rest 23 = .ok (.getfield 180, 3) := by decide +kernel
theorem dX11_rest_26 : decode cX11_rest 26 = .ok (.iload_n 1, 1) := by decide +kernel
theorem dX11_rest_27 : decode cX11_rest 27 = .ok (.iconst 0, 1) := by decide +kernel
theorem dX11_rest_28 : decode cX11_rest 28 = .ok (.iastore, 1) := by decide +kernel
theorem dX11_rest_29 : decode cX11_rest 29 = .ok (.iload_n 2, 1) := by decide +kernel
theorem dX11_rest_30 : decode cX11_rest 30 = .ok (.ireturn, 1) := by decide +kernel
theorem dX11_often_0 : decode cX11_often 0 = .ok (.aload_n 0, 1) := by decide +kernel
theorem dX11_often_1 : decode cX11_often 1 = .ok (.iload_n 1, 1) := by decide +kernel
theorem dX11_often_2 : decode cX11_often 2 = .ok (.invokevirtual 142, 3) := by decide +kernel
theorem dX11_often_5 : decode cX11_often 5 = .ok (.aload_n 0, 1) := by decide +kernel
theorem dX11_often_6 : decode cX11_often 6 = .ok (.iload_n 2, 1) := by decide +kernel
theorem dX11_often_7 : decode cX11_often 7 = .ok (.iconst 1, 1) := by decide +kernel
theorem dX11_often_8 : decode cX11_often 8 = .ok (.bipush 99, 2) := by decide +kernel
theorem dX11_often_10 : decode cX11_often 10 = .ok (.invokevirtual 256, 3) := by decide +kernel
theorem dX11_often_13 : decode cX11_often 13 = .ok (.aload_n 0, 1) := by decide +kernel
theorem dX11_often_14 : decode cX11_often 14 = .ok (.invokevirtual 260, 3) := by decide +kernel
theorem dX11_often_17 : decode cX11_often 17 = .ok (.aload_n 0, 1) := by decide +kernel
theorem dX11_often_18 : decode cX11_often 18 = .ok (.getfield 19, 3) := by decide +kernel
theorem dX11_often_21 : decode cX11_often 21 = .ok (.getfield 149, 3) := by decide +kernel
theorem dX11_often_24 : decode cX11_often 24 = .ok (.iload_n 1, 1) := by decide +kernel
theorem dX11_often_25 : decode cX11_often 25 = .ok (.iaload, 1) := by decide +kernel
theorem dX11_often_26 : decode cX11_often 26 = .ok (.istore_n 3, 1) := by decide +kernel
theorem dX11_often_27 : decode cX11_often 27 = .ok (.aload_n 0, 1) := by decide +kernel
theorem dX11_often_28 : decode cX11_often 28 = .ok (.getfield 19, 3) := by decide +kernel
theorem dX11_often_31 : decode cX11_often 31 = .ok (.getfield 149, 3) := by decide +kernel
theorem dX11_often_34 : decode cX11_often 34 = .ok (.iload_n 1, 1) := by decide +kernel
theorem dX11_often_35 : decode cX11_often 35 = .ok (.iload_n 2, 1) := by decide +kernel
theorem dX11_often_36 : decode cX11_often 36 = .ok (.iastore, 1) := by decide +kernel
theorem dX11_often_37 : decode cX11_often 37 = .ok (.iload_n 3, 1) := by decide +kernel
theorem dX11_often_38 : decode cX11_often 38 = .ok (.ireturn, 1) := by decide +kernel
theorem dX11_tempo_0 : decode cX11_tempo 0 = .ok (.aload_n 0, 1) := by decide +kernel
theorem dX11_tempo_1 : decode cX11_tempo 1 = .ok (.iload_n 1, 1) := by decide +kernel
theorem dX11_tempo_2 : decode cX11_tempo 2 = .ok (.iconst 1, 1) := by decide +kernel
theorem dX11_tempo_3 : decode cX11_tempo 3 = .ok (.bipush 9, 2) := by decide +kernel
theorem dX11_tempo_5 : decode cX11_tempo 5 = .ok (.invokevirtual 256, 3) := by decide +kernel
theorem dX11_tempo_8 : decode cX11_tempo 8 = .ok (.aload_n 0, 1) := by decide +kernel
theorem dX11_tempo_9 : decode cX11_tempo 9 = .ok (.invokevirtual 260, 3) := by decide +kernel
theorem dX11_tempo_12 : decode cX11_tempo 12 = .ok (.aload_n 0, 1) := by decide +kernel
theorem dX11_tempo_13 : decode cX11_tempo 13 = .ok (.getfield 19, 3) := by decide +kernel
theorem dX11_tempo_16 : decode cX11_tempo 16 = .ok (.getfield 200, 3) := by decide +kernel
theorem dX11_tempo_19 : decode cX11_tempo 19 = .ok (.istore_n 2, 1) := by decide +kernel
theorem dX11_tempo_20 : decode cX11_tempo 20 = .ok (.aload_n 0, 1) := by decide +kernel
theorem dX11_tempo_21 : decode cX11_tempo 21 = .ok (.getfield 19, 3) := by decide +kernel
theorem dX11_tempo_24 : decode cX11_tempo 24 = .ok (.iload_n 1, 1) := by decide +kernel
theorem dX11_tempo_25 : decode cX11_tempo 25 = .ok (.putfield 200, 3) := by decide +kernel
theorem dX11_tempo_28 : decode cX11_tempo 28 = .ok (.iload_n 2, 1) := by decide +kernel
theorem dX11_tempo_29 : decode cX11_tempo 29 = .ok (.ireturn, 1) := by decide +kernel
theorem dX11_speed_0 : decode cX11_speed 0 = .ok (.aload_n 0, 1) := by decide +kernel
theorem dX11_speed_1 : decode cX11_speed 1 = .ok (.iload_n 1, 1) := by decide +kernel
theorem dX11_speed_2 : decode cX11_speed 2 = .ok (.invokevirtual 168, 3) := by decide +kernel
theorem dX11_speed_5 : decode cX11_speed 5 = .ok (.aload_n 0, 1) := by decide +kernel
theorem dX11_speed_6 : decode cX11_speed 6 = .ok (.iload_n 2, 1) := by decide +kernel
theorem dX11_speed_7 : decode cX11_speed 7 = .ok (.iconst 1, 1) := by decide +kernel
theorem dX11_speed_8 : decode cX11_speed 8 = .ok (.bipush 9, 2) := by decide +kernel
theorem dX11_speed_10 : decode cX11_speed 10 = .ok (.invokevirtual 256, 3) := by decide +kernel
theorem dX11_speed_13 : decode cX11_speed 13 = .ok (.aload_n 0, 1) := by decide +kernel
theorem dX11_speed_14 : decode cX11_speed 14 = .ok (.invokevirtual 260, 3) := by decide +kernel
theorem dX11_speed_17 : decode cX11_speed 17 = .ok (.aload_n 0, 1) := by decide +kernel
theorem dX11_speed_18 : decode cX11_speed 18 = .ok (.getfield 19, 3) := by decide +kernel
theorem dX11_speed_21 : decode cX11_speed 21 = .ok (.getfield 174, 3) := by decide +kernel
theorem dX11_speed_24 : decode cX11_speed 24 = .ok (.iload_n 1, 1) := by decide +kernel
theorem dX11_speed_25 : decode cX11_speed 25 = .ok (.iaload, 1) := by decide +kernel
theorem dX11_speed_26 : decode cX11_speed 26 = .ok (.istore_n 3, 1) := by decide +kernel
theorem dX11_speed_27 : decode cX11_speed 27 = .ok (.aload_n 0, 1) := by decide +kernel
theorem dX11_speed_28 : decode cX11_speed 28 = .ok (.getfield 19, 3) := by decide +kernel
theorem dX11_speed_31 : decode cX11_speed 31 = .ok (.getfield 174, 3) := by decide +kernel
theorem dX11_speed_34 : decode cX11_speed 34 = .ok (.iload_n 1, 1) := by decide +kernel
theorem dX11_speed_35 : decode cX11_speed 35 = .ok (.iload_n 2, 1) := by decide +kernel
theorem dX11_speed_36 : decode cX11_speed 36 = .ok (.iastore, 1) := by decide +kernel
theorem dX11_speed_37 : decode cX11_speed 37 = .ok (.iload_n 3, 1) := by decide +kernel
theorem dX11_speed_38 : decode cX11_speed 38 = .ok (.ireturn, 1) := by decide +kernel
theorem dX11_keep_0 : decode cX11_keep 0 = .ok (.iconst (-1), 1) := by decide +kernel
theorem dX11_keep_1 : decode cX11_keep 1 = .ok (.istore_n 1, 1) := by decide +kernel
theorem dX11_keep_2 : decode cX11_keep 2 = .ok (.bipush 9, 2) := by decide +kernel
theorem dX11_keep_4 : decode cX11_keep 4 = .ok (.istore_n 2, 1) := by decide +kernel
theorem dX11_keep_5 : decode cX11_keep 5 = .ok (.iconst 0, 1) := by decide +kernel
theorem dX11_keep_6 : decode cX11_keep 6 = .ok (.istore_n 3, 1) := by decide +kernel
theorem dX11_keep_7 : decode cX11_keep 7 = .ok (.iload_n 3, 1) := by decide +kernel
theorem dX11_keep_8 : decode cX11_keep 8 = .ok (.sipush 256, 3) := by decide +kernel
theorem dX11_keep_11 : decode cX11_keep 11 = .ok (.if_icmp .ge 50, 3) := by decide +kernel
theorem dX11_keep_14 : decode cX11_keep 14 = .ok (.iload_n 3, 1) := by decide +kernel
theorem dX11_keep_15 : decode cX11_keep 15 = .ok (.invokestatic 280, 3) := by decide +kernel
theorem dX11_keep_18 : decode cX11_keep 18 = .ok (.iload_n 2, 1) := by decide +kernel
theorem dX11_keep_19 : decode cX11_keep 19 = .ok (.if_icmp .ge 36, 3) := by decide +kernel
theorem dX11_keep_22 : decode cX11_keep 22 = .ok (.aload_n 0, 1) := by decide +kernel
theorem dX11_keep_23 : decode cX11_keep 23 = .ok (.getfield 47, 3) := by decide +kernel
theorem dX11_keep_26 : decode cX11_keep 26 = .ok (.aload_n 0, 1) := by decide +kernel
theorem dX11_keep_27 : decode cX11_keep 27 = .ok (.getfield 19, 3) := by decide +kernel
theorem dX11_keep_30 : decode cX11_keep 30 = .ok (.sipush 255, 3) := by decide +kernel
theorem dX11_keep_33 : decode cX11_keep 33 = .ok (.iload_n 3, 1) := by decide +kernel
theorem dX11_keep_34 : decode cX11_keep 34 = .ok (.isub, 1) := by decide +kernel
theorem dX11_keep_35 : decode cX11_keep 35 = .ok (.invokevirtual 285, 3) := by decide +kernel
theorem dX11_keep_38 : decode cX11_keep 38 = .ok (.aload_n 0, 1) := by decide +kernel
theorem dX11_keep_39 : decode cX11_keep 39 = .ok (.getfield 47, 3) := by decide +kernel
theorem dX11_keep_42 : decode cX11_keep 42 = .ok (.invokevirtual 289, 3) := by decide +kernel
theorem dX11_keep_45 : decode cX11_keep 45 = .ok (.ifCond .eq 10, 3) := by decide +kernel
theorem dX11_keep_48 : decode cX11_keep 48 = .ok (.iload_n 3, 1) := by decide +kernel
theorem dX11_keep_49 : decode cX11_keep 49 = .ok (.istore_n 1, 1) := by decide +kernel
theorem dX11_keep_50 : decode cX11_keep 50 = .ok (.iload_n 3, 1) := by decide +kernel
theorem dX11_keep_51 : decode cX11_keep 51 = .ok (.invokestatic 280, 3) := by decide +kernel
theorem dX11_keep_54 : decode cX11_keep 54 = .ok (.istore_n 2, 1) := by decide +kernel
theorem dX11_keep_55 : decode cX11_keep 55 = .ok (.iinc 3 1, 3) := by decide +kernel
theorem dX11_keep_58 : decode cX11_keep 58 = .ok (.goto (-51), 3) := by decide +kernel
theorem dX11_keep_61 : decode cX11_keep 61 = .ok (.iload_n 1, 1) := by decide +kernel
theorem dX11_keep_62 : decode cX11_keep 62 = .ok (.ireturn, 1) := by decide +kernel
theorem dX11_leaves_0 : decode cX11_leaves 0 = .ok (.aload_n 0, 1) := by decide +kernel
theorem dX11_leaves_1 : decode cX11_leaves 1 = .ok (.iload_n 1, 1) := by decide +kernel
theorem dX11_leaves_2 : decode cX11_leaves 2 = .ok (.iconst 0, 1) := by decide +kernel
theorem dX11_leaves_3 : decode cX11_leaves 3 = .ok (.sipush 999, 3) := by decide +kernel
theorem dX11_leaves_6 : decode cX11_leaves 6 = .ok (.invokevirtual 256, 3) := by decide +kernel
theorem dX11_leaves_9 : decode cX11_leaves 9 = .ok (.iconst (-1), 1) := by decide +kernel
theorem dX11_leaves_10 : decode cX11_leaves 10 = .ok (.istore_n 3, 1) := by decide +kernel
theorem dX11_leaves_11 : decode cX11_leaves 11 = .ok (.iconst (-1), 1) := by decide +kernel
theorem dX11_leaves_12 : decode cX11_leaves 12 = .ok (.istore 4, 2) := by decide +kernel
theorem dX11_leaves_14 : decode cX11_leaves 14 = .ok (.iconst 0, 1) := by decide +kernel
theorem dX11_leaves_15 : decode cX11_leaves 15 = .ok (.istore 5, 2) := by decide +kernel
theorem dX11_leaves_17 : decode cX11_leaves 17 = .ok (.iload 5, 2) := by decide +kernel
theorem dX11_leaves_19 : decode cX11_leaves 19 = .ok (.sipush 256, 3) := by decide +kernel
theorem dX11_leaves_22 : decode cX11_leaves 22 = .ok (.if_icmp .ge 57, 3) := by decide +kernel
theorem dX11_leaves_25 : decode cX11_leaves 25 = .ok (.aload_n 0, 1) := by decide +kernel
theorem dX11_leaves_26 : decode cX11_leaves 26 = .ok (.getfield 47, 3) := by decide +kernel
theorem dX11_leaves_29 : decode cX11_leaves 29 = .ok (.aload_n 0, 1) := by decide +kernel
theorem dX11_leaves_30 : decode cX11_leaves 30 = .ok (.getfield 19, 3) := by decide +kernel
theorem dX11_leaves_33 : decode cX11_leaves 33 = .ok (.iload 5, 2) := by decide +kernel
theorem dX11_leaves_35 : decode cX11_leaves 35 = .ok (.invokevirtual 285, 3) := by decide +kernel
theorem dX11_leaves_38 : decode cX11_leaves 38 = .ok (.aload_n 0, 1) := by decide +kernel
theorem dX11_leaves_39 : decode cX11_leaves 39 = .ok (.getfield 47, 3) := by decide +kernel
theorem dX11_leaves_42 : decode cX11_leaves 42 = .ok (.invokevirtual 194, 3) := by decide +kernel
theorem dX11_leaves_45 : decode cX11_leaves 45 = .ok (.iload 4, 2) := by decide +kernel
theorem dX11_leaves_47 : decode cX11_leaves 47 = .ok (.if_icmp .le 26, 3) := by decide +kernel
theorem dX11_leaves_50 : decode cX11_leaves 50 = .ok (.aload_n 0, 1) := by decide +kernel
theorem dX11_leaves_51 : decode cX11_leaves 51 = .ok (.getfield 47, 3) := by decide +kernel
theorem dX11_leaves_54 : decode cX11_leaves 54 = .ok (.invokevirtual 191, 3) := by decide +kernel
theorem dX11_leaves_57 : decode cX11_leaves 57 = .ok (.iload_n 1, 1) := by decide +kernel
theorem dX11_leaves_58 : decode cX11_leaves 58 = .ok (.if_icmp .gt 15, 3) := by decide +kernel
theorem dX11_leaves_61 : decode cX11_leaves 61 = .ok (.iload 5, 2) := by decide +kernel
theorem dX11_leaves_63 : decode cX11_leaves 63 = .ok (.istore_n 3, 1) := by decide +kernel
theorem dX11_leaves_64 : decode cX11_leaves 64 = .ok (.aload_n 0, 1) := by decide +kernel
theorem dX11_leaves_65 : decode cX11_leaves 65 = .ok (.getfield 47, 3) := by decide +kernel
theorem dX11_leaves_68 : decode cX11_leaves 68 = .ok (.invokevirtual 194, 3) := by decide +kernel
theorem dX11_leaves_71 : decode cX11_leaves 71 = .ok (.istore 4, 2) := by decide +kernel
theorem dX11_leaves_73 : decode cX11_leaves 73 = .ok (.iinc 5 1, 3) := by decide +kernel
theorem dX11_leaves_76 : decode cX11_leaves 76 = .ok (.goto (-59), 3) := by decide +kernel
theorem dX11_leaves_79 : decode cX11_leaves 79 = .ok (.iload_n 2, 1) := by decide +kernel
theorem dX11_leaves_80 : decode cX11_leaves 80 = .ok (.ifCond .eq 8, 3) := by decide +kernel
theorem dX11_leaves_83 : decode cX11_leaves 83 = .ok (.iload 4, 2) := by decide +kernel
theorem dX11_leaves_85 : decode cX11_leaves 85 = .ok (.goto 4, 3) := by decide +kernel
theorem dX11_leaves_88 : decode cX11_leaves 88 = .ok (.iload_n 3, 1) := by decide +kernel
theorem dX11_leaves_89 : decode cX11_leaves 89 = .ok (.ireturn, 1) := by decide +kernel
theorem dX11_codes_0 : decode cX11_codes 0 = .ok (.aload_n 0, 1) := by decide +kernel
theorem dX11_codes_1 : decode cX11_codes 1 = .ok (.getfield 65, 3) := by decide +kernel
theorem dX11_codes_4 : decode cX11_codes 4 = .ok (.invokevirtual 292, 3) := by decide +kernel
theorem dX11_codes_7 : decode cX11_codes 7 = .ok (.ireturn, 1) := by decide +kernel
theorem dX11_heard_0 : decode cX11_heard 0 = .ok (.aload_n 0, 1) := by decide +kernel
theorem dX11_heard_1 : decode cX11_heard 1 = .ok (.aload_n 0, 1) := by decide +kernel
theorem dX11_heard_2 : decode cX11_heard 2 = .ok (.getfield 72, 3) := by decide +kernel
theorem dX11_heard_5 : decode cX11_heard 5 = .ok (.invokevirtual 295, 3) := by decide +kernel
theorem dX11_heard_8 : decode cX11_heard 8 = .ok (.invokevirtual 298, 3) := by decide +kernel
theorem dX11_heard_11 : decode cX11_heard 11 = .ok (.aload_n 0, 1) := by decide +kernel
theorem dX11_heard_12 : decode cX11_heard 12 = .ok (.getfield 72, 3) := by decide +kernel
theorem dX11_heard_15 : decode cX11_heard 15 = .ok (.invokevirtual 302, 3) := by decide +kernel
theorem dX11_heard_18 : decode cX11_heard 18 = .ok (.ireturn, 1) := by decide +kernel
theorem dX11_likely_0 : decode cX11_likely 0 = .ok (.aload_n 0, 1) := by decide +kernel
theorem dX11_likely_1 : decode cX11_likely 1 = .ok (.aload_n 0, 1) := by decide +kernel
theorem dX11_likely_2 : decode cX11_likely 2 = .ok (.getfield 72, 3) := by decide +kernel
theorem dX11_likely_5 : decode cX11_likely 5 = .ok (.invokevirtual 295, 3) := by decide +kernel
theorem dX11_likely_8 : decode cX11_likely 8 = .ok (.invokevirtual 298, 3) := by decide +kernel
theorem dX11_likely_11 : decode cX11_likely 11 = .ok (.aload_n 0, 1) := by decide +kernel
theorem dX11_likely_12 : decode cX11_likely 12 = .ok (.getfield 72, 3) := by decide +kernel
theorem dX11_likely_15 : decode cX11_likely 15 = .ok (.invokevirtual 305, 3) := by decide +kernel
theorem dX11_likely_18 : decode cX11_likely 18 = .ok (.ireturn, 1) := by decide +kernel
theorem dX11_look_0 : decode cX11_look 0 = .ok (.aload_n 0, 1) := by decide +kernel
theorem dX11_look_1 : decode cX11_look 1 = .ok (.aload_n 0, 1) := by decide +kernel
theorem dX11_look_2 : decode cX11_look 2 = .ok (.getfield 72, 3) := by decide +kernel
theorem dX11_look_5 : decode cX11_look 5 = .ok (.invokevirtual 295, 3) := by decide +kernel
theorem dX11_look_8 : decode cX11_look 8 = .ok (.invokevirtual 298, 3) := by decide +kernel
theorem dX11_look_11 : decode cX11_look 11 = .ok (.aload_n 0, 1) := by decide +kernel
theorem dX11_look_12 : decode cX11_look 12 = .ok (.getfield 72, 3) := by decide +kernel
theorem dX11_look_15 : decode cX11_look 15 = .ok (.invokevirtual 308, 3) := by decide +kernel
theorem dX11_look_18 : decode cX11_look 18 = .ok (.ireturn, 1) := by decide +kernel
theorem dX11_hand_0 : decode cX11_hand 0 = .ok (.aload_n 0, 1) := by decide +kernel
theorem dX11_hand_1 : decode cX11_hand 1 = .ok (.aload_n 0, 1) := by decide +kernel
theorem dX11_hand_2 : decode cX11_hand 2 = .ok (.getfield 72, 3) := by decide +kernel
theorem dX11_hand_5 : decode cX11_hand 5 = .ok (.invokevirtual 311, 3) := by decide +kernel
theorem dX11_hand_8 : decode cX11_hand 8 = .ok (.invokevirtual 298, 3) := by decide +kernel
theorem dX11_hand_11 : decode cX11_hand 11 = .ok (.aload_n 0, 1) := by decide +kernel
theorem dX11_hand_12 : decode cX11_hand 12 = .ok (.getfield 72, 3) := by decide +kernel
theorem dX11_hand_15 : decode cX11_hand 15 = .ok (.invokevirtual 314, 3) := by decide +kernel
theorem dX11_hand_18 : decode cX11_hand 18 = .ok (.istore_n 2, 1) := by decide +kernel
theorem dX11_hand_19 : decode cX11_hand 19 = .ok (.iload_n 1, 1) := by decide +kernel
theorem dX11_hand_20 : decode cX11_hand 20 = .ok (.ifCond .eq 13, 3) := by decide +kernel
theorem dX11_hand_23 : decode cX11_hand 23 = .ok (.aload_n 0, 1) := by decide +kernel
theorem dX11_hand_24 : decode cX11_hand 24 = .ok (.getfield 72, 3) := by decide +kernel
theorem dX11_hand_27 : decode cX11_hand 27 = .ok (.invokevirtual 317, 3) := by decide +kernel
theorem dX11_hand_30 : decode cX11_hand 30 = .ok (.goto 4, 3) := by decide +kernel
theorem dX11_hand_33 : decode cX11_hand 33 = .ok (.iload_n 2, 1) := by decide +kernel
theorem dX11_hand_34 : decode cX11_hand 34 = .ok (.ireturn, 1) := by decide +kernel
theorem dX11_ask_0 : decode cX11_ask 0 = .ok (.aload_n 0, 1) := by decide +kernel
theorem dX11_ask_1 : decode cX11_ask 1 = .ok (.aload_n 0, 1) := by decide +kernel
theorem dX11_ask_2 : decode cX11_ask 2 = .ok (.getfield 72, 3) := by decide +kernel
theorem dX11_ask_5 : decode cX11_ask 5 = .ok (.invokevirtual 311, 3) := by decide +kernel
theorem dX11_ask_8 : decode cX11_ask 8 = .ok (.invokevirtual 298, 3) := by decide +kernel
theorem dX11_ask_11 : decode cX11_ask 11 = .ok (.aload_n 0, 1) := by decide +kernel
theorem dX11_ask_12 : decode cX11_ask 12 = .ok (.getfield 72, 3) := by decide +kernel
theorem dX11_ask_15 : decode cX11_ask 15 = .ok (.invokevirtual 314, 3) := by decide +kernel
theorem dX11_ask_18 : decode cX11_ask 18 = .ok (.pop, 1) := by decide +kernel
theorem dX11_ask_19 : decode cX11_ask 19 = .ok (.aload_n 0, 1) := by decide +kernel
theorem dX11_ask_20 : decode cX11_ask 20 = .ok (.getfield 72, 3) := by decide +kernel
theorem dX11_ask_23 : decode cX11_ask 23 = .ok (.invokevirtual 320, 3) := by decide +kernel
theorem dX11_ask_26 : decode cX11_ask 26 = .ok (.ireturn, 1) := by decide +kernel
theorem dX11_whose_0 : decode cX11_whose 0 = .ok (.aload_n 0, 1) := by decide +kernel
theorem dX11_whose_1 : decode cX11_whose 1 = .ok (.aload_n 0, 1) := by decide +kernel
theorem dX11_whose_2 : decode cX11_whose 2 = .ok (.getfield 72, 3) := by decide +kernel
theorem dX11_whose_5 : decode cX11_whose 5 = .ok (.invokevirtual 311, 3) := by decide +kernel
theorem dX11_whose_8 : decode cX11_whose 8 = .ok (.invokevirtual 298, 3) := by decide +kernel
theorem dX11_whose_11 : decode cX11_whose 11 = .ok (.aload_n 0, 1) := by decide +kernel
theorem dX11_whose_12 : decode cX11_whose 12 = .ok (.getfield 72, 3) := by decide +kernel
theorem dX11_whose_15 : decode cX11_whose 15 = .ok (.invokevirtual 323, 3) := by decide +kernel
theorem dX11_whose_18 : decode cX11_whose 18 = .ok (.ireturn, 1) := by decide +kernel
theorem dX11_fluent_0 : decode cX11_fluent 0 = .ok (.iconst 0, 1) := by decide +kernel
theorem dX11_fluent_1 : decode cX11_fluent 1 = .ok (.istore_n 1, 1) := by decide +kernel
theorem dX11_fluent_2 : decode cX11_fluent 2 = .ok (.iconst 0, 1) := by decide +kernel
theorem dX11_fluent_3 : decode cX11_fluent 3 = .ok (.istore_n 2, 1) := by decide +kernel
theorem dX11_fluent_4 : decode cX11_fluent 4 = .ok (.iload_n 2, 1) := by decide +kernel
theorem dX11_fluent_5 : decode cX11_fluent 5 = .ok (.aload_n 0, 1) := by decide +kernel
theorem dX11_fluent_6 : decode cX11_fluent 6 = .ok (.getfield 19, 3) := by decide +kernel
theorem dX11_fluent_9 : decode cX11_fluent 9 = .ok (.getfield 326, 3) := by decide +kernel
theorem dX11_fluent_12 : decode cX11_fluent 12 = .ok (.if_icmp .ge 33, 3) := by decide +kernel
theorem dX11_fluent_15 : decode cX11_fluent 15 = .ok (.aload_n 0, 1) := by decide +kernel
theorem dX11_fluent_16 : decode cX11_fluent 16 = .ok (.getfield 81, 3) := by decide +kernel
theorem dX11_fluent_19 : decode cX11_fluent 19 = .ok (.iload_n 2, 1) := by decide +kernel
theorem dX11_fluent_20 : decode cX11_fluent 20 = .ok (.aload_n 0, 1) := by decide +kernel
theorem dX11_fluent_21 : decode cX11_fluent 21 = .ok (.getfield 19, 3) := by decide +kernel
theorem dX11_fluent_24 : decode cX11_fluent 24 = .ok (.getfield 200, 3) := by decide +kernel
theorem dX11_fluent_27 : decode cX11_fluent 27 = .ok (.invokevirtual 203, 3) := by decide +kernel
theorem dX11_fluent_30 : decode cX11_fluent 30 = .ok (.ifCond .ne 9, 3) := by decide +kernel
theorem dX11_fluent_33 : decode cX11_fluent 33 = .ok (.iload_n 1, 1) := by decide +kernel
theorem dX11_fluent_34 : decode cX11_fluent 34 = .ok (.iconst 1, 1) := by decide +kernel
theorem dX11_fluent_35 : decode cX11_fluent 35 = .ok (.iload_n 2, 1) := by decide +kernel
theorem dX11_fluent_36 : decode cX11_fluent 36 = .ok (.ishl, 1) := by decide +kernel
theorem dX11_fluent_37 : decode cX11_fluent 37 = .ok (.ior, 1) := by decide +kernel
theorem dX11_fluent_38 : decode cX11_fluent 38 = .ok (.istore_n 1, 1) := by decide +kernel
theorem dX11_fluent_39 : decode cX11_fluent 39 = .ok (.iinc 2 1, 3) := by decide +kernel
theorem dX11_fluent_42 : decode cX11_fluent 42 = .ok (.goto (-38), 3) := by decide +kernel
theorem dX11_fluent_45 : decode cX11_fluent 45 = .ok (.iload_n 1, 1) := by decide +kernel
theorem dX11_fluent_46 : decode cX11_fluent 46 = .ok (.ireturn, 1) := by decide +kernel
theorem dX11_better_0 : decode cX11_better 0 = .ok (.aload_n 0, 1) := by decide +kernel
theorem dX11_better_1 : decode cX11_better 1 = .ok (.iload_n 1, 1) := by decide +kernel
theorem dX11_better_2 : decode cX11_better 2 = .ok (.invokevirtual 168, 3) := by decide +kernel
theorem dX11_better_5 : decode cX11_better 5 = .ok (.aload_n 0, 1) := by decide +kernel
theorem dX11_better_6 : decode cX11_better 6 = .ok (.iload_n 2, 1) := by decide +kernel
theorem dX11_better_7 : decode cX11_better 7 = .ok (.invokevirtual 168, 3) := by decide +kernel
theorem dX11_better_10 : decode cX11_better 10 = .ok (.iload_n 1, 1) := by decide +kernel
theorem dX11_better_11 : decode cX11_better 11 = .ok (.iload_n 2, 1) := by decide +kernel
theorem dX11_better_12 : decode cX11_better 12 = .ok (.if_icmp .ne 14, 3) := by decide +kernel
theorem dX11_better_15 : decode cX11_better 15 = .ok (.new 110, 3) := by decide +kernel
theorem dX11_better_18 : decode cX11_better 18 = .ok (.dup, 1) := by decide +kernel
theorem dX11_better_19 : decode cX11_better 19 = .ok (.ldc_w 329, 3) := by decide +kernel
theorem dX11_better_22 : decode cX11_better 22 = .ok (.invokespecial 114, 3) := by decide +kernel
theorem dX11_better_25 : decode cX11_better 25 = .ok (.athrow, 1) := by decide +kernel
theorem dX11_better_26 : decode cX11_better 26 = .ok (.aload_n 0, 1) := by decide +kernel
theorem dX11_better_27 : decode cX11_better 27 = .ok (.getfield 81, 3) := by decide +kernel
theorem dX11_better_30 : decode cX11_better 30 = .ok (.iload_n 1, 1) := by decide +kernel
theorem dX11_better_31 : decode cX11_better 31 = .ok (.invokevirtual 215, 3) := by decide +kernel
theorem dX11_better_34 : decode cX11_better 34 = .ok (.aload_n 0, 1) := by decide +kernel
theorem dX11_better_35 : decode cX11_better 35 = .ok (.getfield 81, 3) := by decide +kernel
theorem dX11_better_38 : decode cX11_better 38 = .ok (.iload_n 2, 1) := by decide +kernel
theorem dX11_better_39 : decode cX11_better 39 = .ok (.invokevirtual 215, 3) := by decide +kernel
theorem dX11_better_42 : decode cX11_better 42 = .ok (.if_icmp .le 7, 3) := by decide +kernel
theorem dX11_better_45 : decode cX11_better 45 = .ok (.iconst 1, 1) := by decide +kernel
theorem dX11_better_46 : decode cX11_better 46 = .ok (.goto 4, 3) := by decide +kernel
theorem dX11_better_49 : decode cX11_better 49 = .ok (.iconst 0, 1) := by decide +kernel
theorem dX11_better_50 : decode cX11_better 50 = .ok (.ireturn, 1) := by decide +kernel
theorem dX11_change_0 : decode cX11_change 0 = .ok (.aload_n 0, 1) := by decide +kernel
theorem dX11_change_1 : decode cX11_change 1 = .ok (.iload_n 1, 1) := by decide +kernel
theorem dX11_change_2 : decode cX11_change 2 = .ok (.invokevirtual 142, 3) := by decide +kernel
theorem dX11_change_5 : decode cX11_change 5 = .ok (.aload_n 0, 1) := by decide +kernel
theorem dX11_change_6 : decode cX11_change 6 = .ok (.iload_n 2, 1) := by decide +kernel
theorem dX11_change_7 : decode cX11_change 7 = .ok (.invokevirtual 142, 3) := by decide +kernel
theorem dX11_change_10 : decode cX11_change 10 = .ok (.aload_n 0, 1) := by decide +kernel
theorem dX11_change_11 : decode cX11_change 11 = .ok (.getfield 65, 3) := by decide +kernel
theorem dX11_change_14 : decode cX11_change 14 = .ok (.iload_n 1, 1) := by decide +kernel
theorem dX11_change_15 : decode cX11_change 15 = .ok (.iload_n 2, 1) := by decide +kernel
theorem dX11_change_16 : decode cX11_change 16 = .ok (.invokevirtual 331, 3) := by decide +kernel
theorem dX11_change_19 : decode cX11_change 19 = .ok (.ireturn, 1) := by decide +kernel
theorem dX11_chain_0 : decode cX11_chain 0 = .ok (.aload_n 0, 1) := by decide +kernel
theorem dX11_chain_1 : decode cX11_chain 1 = .ok (.iload_n 1, 1) := by decide +kernel
theorem dX11_chain_2 : decode cX11_chain 2 = .ok (.invokevirtual 142, 3) := by decide +kernel
theorem dX11_chain_5 : decode cX11_chain 5 = .ok (.aload_n 0, 1) := by decide +kernel
theorem dX11_chain_6 : decode cX11_chain 6 = .ok (.iload_n 2, 1) := by decide +kernel
theorem dX11_chain_7 : decode cX11_chain 7 = .ok (.invokevirtual 142, 3) := by decide +kernel
theorem dX11_chain_10 : decode cX11_chain 10 = .ok (.aload_n 0, 1) := by decide +kernel
theorem dX11_chain_11 : decode cX11_chain 11 = .ok (.getfield 65, 3) := by decide +kernel
theorem dX11_chain_14 : decode cX11_chain 14 = .ok (.iload_n 1, 1) := by decide +kernel
theorem dX11_chain_15 : decode cX11_chain 15 = .ok (.iload_n 2, 1) := by decide +kernel
theorem dX11_chain_16 : decode cX11_chain 16 = .ok (.invokevirtual 334, 3) := by decide +kernel
theorem dX11_chain_19 : decode cX11_chain 19 = .ok (.ireturn, 1) := by decide +kernel
theorem dX11_echo_0 : decode cX11_echo 0 = .ok (.aload_n 0, 1) := by decide +kernel
theorem dX11_echo_1 : decode cX11_echo 1 = .ok (.getfield 65, 3) := by decide +kernel
theorem dX11_echo_4 : decode cX11_echo 4 = .ok (.invokevirtual 337, 3) := by decide +kernel
theorem dX11_echo_7 : decode cX11_echo 7 = .ok (.ireturn, 1) := by decide +kernel
theorem dX11_pages_0 : decode cX11_pages 0 = .ok (.aload_n 0, 1) := by decide +kernel
theorem dX11_pages_1 : decode cX11_pages 1 = .ok (.iload_n 1, 1) := by decide +kernel
theorem dX11_pages_2 : decode cX11_pages 2 = .ok (.invokevirtual 168, 3) := by decide +kernel
theorem dX11_pages_5 : decode cX11_pages 5 = .ok (.aload_n 0, 1) := by decide +kernel
theorem dX11_pages_6 : decode cX11_pages 6 = .ok (.iload_n 2, 1) := by decide +kernel
theorem dX11_pages_7 : decode cX11_pages 7 = .ok (.iconst 0, 1) := by decide +kernel
theorem dX11_pages_8 : decode cX11_pages 8 = .ok (.bipush 99, 2) := by decide +kernel
theorem dX11_pages_10 : decode cX11_pages 10 = .ok (.invokevirtual 256, 3) := by decide +kernel
theorem dX11_pages_13 : decode cX11_pages 13 = .ok (.aload_n 0, 1) := by decide +kernel
theorem dX11_pages_14 : decode cX11_pages 14 = .ok (.getfield 81, 3) := by decide +kernel
theorem dX11_pages_17 : decode cX11_pages 17 = .ok (.iload_n 1, 1) := by decide +kernel
theorem dX11_pages_18 : decode cX11_pages 18 = .ok (.iload_n 2, 1) := by decide +kernel
theorem dX11_pages_19 : decode cX11_pages 19 = .ok (.invokevirtual 340, 3) := by decide +kernel
theorem dX11_pages_22 : decode cX11_pages 22 = .ok (.ireturn, 1) := by decide +kernel
theorem dX11_pairs_0 : decode cX11_pairs 0 = .ok (.iload_n 1, 1) := by decide +kernel
theorem dX11_pairs_1 : decode cX11_pairs 1 = .ok (.iconst (-1), 1) := by decide +kernel
theorem dX11_pairs_2 : decode cX11_pairs 2 = .ok (.if_icmp .eq 8, 3) := by decide +kernel
theorem dX11_pairs_5 : decode cX11_pairs 5 = .ok (.aload_n 0, 1) := by decide +kernel
theorem dX11_pairs_6 : decode cX11_pairs 6 = .ok (.iload_n 1, 1) := by decide +kernel
theorem dX11_pairs_7 : decode cX11_pairs 7 = .ok (.invokevirtual 168, 3) := by decide +kernel
theorem dX11_pairs_10 : decode cX11_pairs 10 = .ok (.aload_n 0, 1) := by decide +kernel
theorem dX11_pairs_11 : decode cX11_pairs 11 = .ok (.getfield 81, 3) := by decide +kernel
theorem dX11_pairs_14 : decode cX11_pairs 14 = .ok (.invokevirtual 343, 3) := by decide +kernel
theorem dX11_pairs_17 : decode cX11_pairs 17 = .ok (.istore_n 2, 1) := by decide +kernel
theorem dX11_pairs_18 : decode cX11_pairs 18 = .ok (.iload_n 1, 1) := by decide +kernel
theorem dX11_pairs_19 : decode cX11_pairs 19 = .ok (.iconst (-1), 1) := by decide +kernel
theorem dX11_pairs_20 : decode cX11_pairs 20 = .ok (.if_icmp .ne 7, 3) := by decide +kernel
theorem dX11_pairs_23 : decode cX11_pairs 23 = .ok (.iload_n 2, 1) := by decide +kernel
theorem dX11_pairs_24 : decode cX11_pairs 24 = .ok (.goto 11, 3) := by decide +kernel
theorem dX11_pairs_27 : decode cX11_pairs 27 = .ok (.aload_n 0, 1) := by decide +kernel
theorem dX11_pairs_28 : decode cX11_pairs 28 = .ok (.getfield 81, 3) := by decide +kernel
theorem dX11_pairs_31 : decode cX11_pairs 31 = .ok (.iload_n 1, 1) := by decide +kernel
theorem dX11_pairs_32 : decode cX11_pairs 32 = .ok (.invokevirtual 346, 3) := by decide +kernel
theorem dX11_pairs_35 : decode cX11_pairs 35 = .ok (.ireturn, 1) := by decide +kernel
theorem dX11_rests_0 : decode cX11_rests 0 = .ok (.aload_n 0, 1) := by decide +kernel
theorem dX11_rests_1 : decode cX11_rests 1 = .ok (.iload_n 1, 1) := by decide +kernel
theorem dX11_rests_2 : decode cX11_rests 2 = .ok (.invokevirtual 168, 3) := by decide +kernel
theorem dX11_rests_5 : decode cX11_rests 5 = .ok (.aload_n 0, 1) := by decide +kernel
theorem dX11_rests_6 : decode cX11_rests 6 = .ok (.getfield 81, 3) := by decide +kernel
theorem dX11_rests_9 : decode cX11_rests 9 = .ok (.iload_n 1, 1) := by decide +kernel
theorem dX11_rests_10 : decode cX11_rests 10 = .ok (.invokevirtual 349, 3) := by decide +kernel
theorem dX11_rests_13 : decode cX11_rests 13 = .ok (.ireturn, 1) := by decide +kernel
theorem dX11_odds_0 : decode cX11_odds 0 = .ok (.aload_n 0, 1) := by decide +kernel
theorem dX11_odds_1 : decode cX11_odds 1 = .ok (.iload_n 1, 1) := by decide +kernel
theorem dX11_odds_2 : decode cX11_odds 2 = .ok (.invokevirtual 168, 3) := by decide +kernel
theorem dX11_odds_5 : decode cX11_odds 5 = .ok (.aload_n 0, 1) := by decide +kernel
theorem dX11_odds_6 : decode cX11_odds 6 = .ok (.iload_n 2, 1) := by decide +kernel
theorem dX11_odds_7 : decode cX11_odds 7 = .ok (.invokevirtual 142, 3) := by decide +kernel
theorem dX11_odds_10 : decode cX11_odds 10 = .ok (.aload_n 0, 1) := by decide +kernel
theorem dX11_odds_11 : decode cX11_odds 11 = .ok (.iload_n 3, 1) := by decide +kernel
theorem dX11_odds_12 : decode cX11_odds 12 = .ok (.iconst 0, 1) := by decide +kernel
theorem dX11_odds_13 : decode cX11_odds 13 = .ok (.iconst 4, 1) := by decide +kernel
theorem dX11_odds_14 : decode cX11_odds 14 = .ok (.invokevirtual 256, 3) := by decide +kernel
theorem dX11_odds_17 : decode cX11_odds 17 = .ok (.aload_n 0, 1) := by decide +kernel
theorem dX11_odds_18 : decode cX11_odds 18 = .ok (.getfield 56, 3) := by decide +kernel
theorem dX11_odds_21 : decode cX11_odds 21 = .ok (.aload_n 0, 1) := by decide +kernel
theorem dX11_odds_22 : decode cX11_odds 22 = .ok (.getfield 19, 3) := by decide +kernel
theorem dX11_odds_25 : decode cX11_odds 25 = .ok (.iload_n 1, 1) := by decide +kernel
theorem dX11_odds_26 : decode cX11_odds 26 = .ok (.iload_n 2, 1) := by decide +kernel
theorem dX11_odds_27 : decode cX11_odds 27 = .ok (.invokevirtual 244, 3) := by decide +kernel
theorem dX11_odds_30 : decode cX11_odds 30 = .ok (.bipush 100, 2) := by decide +kernel
theorem dX11_odds_32 : decode cX11_odds 32 = .ok (.aload_n 0, 1) := by decide +kernel
theorem dX11_odds_33 : decode cX11_odds 33 = .ok (.getfield 56, 3) := by decide +kernel
theorem dX11_odds_36 : decode cX11_odds 36 = .ok (.aload_n 0, 1) := by decide +kernel
theorem dX11_odds_37 : decode cX11_odds 37 = .ok (.getfield 19, 3) := by decide +kernel
theorem dX11_odds_40 : decode cX11_odds 40 = .ok (.invokevirtual 252, 3) := by decide +kernel
theorem dX11_odds_43 : decode cX11_odds 43 = .ok (.isub, 1) := by decide +kernel
theorem dX11_odds_44 : decode cX11_odds 44 = .ok (.istore 4, 2) := by decide +kernel
theorem dX11_odds_46 : decode cX11_odds 46 = .ok (.sipush 10000, 3) := by decide +kernel
theorem dX11_odds_49 : decode cX11_odds 49 = .ok (.istore 5, 2) := by decide +kernel
theorem dX11_odds_51 : decode cX11_odds 51 = .ok (.iconst 0, 1) := by decide +kernel
theorem dX11_odds_52 : decode cX11_odds 52 = .ok (.istore 6, 2) := by decide +kernel
theorem dX11_odds_54 : decode cX11_odds 54 = .ok (.iload 6, 2) := by decide +kernel
theorem dX11_odds_56 : decode cX11_odds 56 = .ok (.iload_n 3, 1) := by decide +kernel
theorem dX11_odds_57 : decode cX11_odds 57 = .ok (.if_icmp .ge 19, 3) := by decide +kernel
theorem dX11_odds_60 : decode cX11_odds 60 = .ok (.iload 5, 2) := by decide +kernel
theorem dX11_odds_62 : decode cX11_odds 62 = .ok (.iload 4, 2) := by decide +kernel
theorem dX11_odds_64 : decode cX11_odds 64 = .ok (.imul, 1) := by decide +kernel
theorem dX11_odds_65 : decode cX11_odds 65 = .ok (.bipush 100, 2) := by decide +kernel
theorem dX11_odds_67 : decode cX11_odds 67 = .ok (.idiv, 1) := by decide +kernel
theorem dX11_odds_68 : decode cX11_odds 68 = .ok (.istore 5, 2) := by decide +kernel
theorem dX11_odds_70 : decode cX11_odds 70 = .ok (.iinc 6 1, 3) := by decide +kernel
theorem dX11_odds_73 : decode cX11_odds 73 = .ok (.goto (-19), 3) := by decide +kernel
theorem dX11_odds_76 : decode cX11_odds 76 = .ok (.iload 5, 2) := by decide +kernel
theorem dX11_odds_78 : decode cX11_odds 78 = .ok (.ireturn, 1) := by decide +kernel
theorem dX11_oftenest_0 : decode cX11_oftenest 0 = .ok (.aload_n 0, 1) := by decide +kernel
theorem dX11_oftenest_1 : decode cX11_oftenest 1 = .ok (.iload_n 1, 1) := by decide +kernel
theorem dX11_oftenest_2 : decode cX11_oftenest 2 = .ok (.ifCond .eq 13, 3) := by decide +kernel
theorem dX11_oftenest_5 : decode cX11_oftenest 5 = .ok (.aload_n 0, 1) := by decide +kernel
theorem dX11_oftenest_6 : decode cX11_oftenest 6 = .ok (.getfield 19, 3) := by decide +kernel
theorem dX11_oftenest_9 : decode cX11_oftenest 9 = .ok (.getfield 149, 3) := by decide +kernel
theorem dX11_oftenest_12 : decode cX11_oftenest 12 = .ok (.goto 10, 3) := by decide +kernel
theorem dX11_oftenest_15 : decode cX11_oftenest 15 = .ok (.aload_n 0, 1) := by decide +kernel
theorem dX11_oftenest_16 : decode cX11_oftenest 16 = .ok (.getfield 19, 3) := by decide +kernel
theorem dX11_oftenest_19 : decode cX11_oftenest 19 = .ok (.getfield 145, 3) := by decide +kernel
theorem dX11_oftenest_22 : decode cX11_oftenest 22 = .ok (.aload_n 0, 1) := by decide +kernel
theorem dX11_oftenest_23 : decode cX11_oftenest 23 = .ok (.getfield 19, 3) := by decide +kernel
theorem dX11_oftenest_26 : decode cX11_oftenest 26 = .ok (.getfield 352, 3) := by decide +kernel
theorem dX11_oftenest_29 : decode cX11_oftenest 29 = .ok (.invokevirtual 355, 3) := by decide +kernel
theorem dX11_oftenest_32 : decode cX11_oftenest 32 = .ok (.ireturn, 1) := by decide +kernel
theorem dX11_quickest_0 : decode cX11_quickest 0 = .ok (.aload_n 0, 1) := by decide +kernel
theorem dX11_quickest_1 : decode cX11_quickest 1 = .ok (.iload_n 1, 1) := by decide +kernel
theorem dX11_quickest_2 : decode cX11_quickest 2 = .ok (.ifCond .eq 13, 3) := by decide +kernel
theorem dX11_quickest_5 : decode cX11_quickest 5 = .ok (.aload_n 0, 1) := by decide +kernel
theorem dX11_quickest_6 : decode cX11_quickest 6 = .ok (.getfield 19, 3) := by decide +kernel
theorem dX11_quickest_9 : decode cX11_quickest 9 = .ok (.getfield 174, 3) := by decide +kernel
theorem dX11_quickest_12 : decode cX11_quickest 12 = .ok (.goto 10, 3) := by decide +kernel
theorem dX11_quickest_15 : decode cX11_quickest 15 = .ok (.aload_n 0, 1) := by decide +kernel
theorem dX11_quickest_16 : decode cX11_quickest 16 = .ok (.getfield 19, 3) := by decide +kernel
theorem dX11_quickest_19 : decode cX11_quickest 19 = .ok (.getfield 180, 3) := by decide +kernel
theorem dX11_quickest_22 : decode cX11_quickest 22 = .ok (.aload_n 0, 1) := by decide +kernel
theorem dX11_quickest_23 : decode cX11_quickest 23 = .ok (.getfield 19, 3) := by decide +kernel
theorem dX11_quickest_26 : decode cX11_quickest 26 = .ok (.getfield 326, 3) := by decide +kernel
theorem dX11_quickest_29 : decode cX11_quickest 29 = .ok (.invokevirtual 355, 3) := by decide +kernel
theorem dX11_quickest_32 : decode cX11_quickest 32 = .ok (.ireturn, 1) := by decide +kernel
theorem dX11_twins_0 : decode cX11_twins 0 = .ok (.aload_n 0, 1) := by decide +kernel
theorem dX11_twins_1 : decode cX11_twins 1 = .ok (.getfield 65, 3) := by decide +kernel
theorem dX11_twins_4 : decode cX11_twins 4 = .ok (.invokevirtual 359, 3) := by decide +kernel
theorem dX11_twins_7 : decode cX11_twins 7 = .ok (.ireturn, 1) := by decide +kernel
theorem dX11_uses_0 : decode cX11_uses 0 = .ok (.aload_n 0, 1) := by decide +kernel
theorem dX11_uses_1 : decode cX11_uses 1 = .ok (.iload_n 1, 1) := by decide +kernel
theorem dX11_uses_2 : decode cX11_uses 2 = .ok (.invokevirtual 272, 3) := by decide +kernel
theorem dX11_uses_5 : decode cX11_uses 5 = .ok (.aload_n 0, 1) := by decide +kernel
theorem dX11_uses_6 : decode cX11_uses 6 = .ok (.getfield 65, 3) := by decide +kernel
theorem dX11_uses_9 : decode cX11_uses 9 = .ok (.iload_n 1, 1) := by decide +kernel
theorem dX11_uses_10 : decode cX11_uses 10 = .ok (.invokevirtual 362, 3) := by decide +kernel
theorem dX11_uses_13 : decode cX11_uses 13 = .ok (.ireturn, 1) := by decide +kernel
theorem dX11_silent_0 : decode cX11_silent 0 = .ok (.iconst 0, 1) := by decide +kernel
theorem dX11_silent_1 : decode cX11_silent 1 = .ok (.istore_n 1, 1) := by decide +kernel
theorem dX11_silent_2 : decode cX11_silent 2 = .ok (.iconst 0, 1) := by decide +kernel
theorem dX11_silent_3 : decode cX11_silent 3 = .ok (.istore_n 2, 1) := by decide +kernel
theorem dX11_silent_4 : decode cX11_silent 4 = .ok (.iload_n 2, 1) := by decide +kernel
theorem dX11_silent_5 : decode cX11_silent 5 = .ok (.bipush 8, 2) := by decide +kernel
theorem dX11_silent_7 : decode cX11_silent 7 = .ok (.if_icmp .ge 26, 3) := by decide +kernel
theorem dX11_silent_10 : decode cX11_silent 10 = .ok (.aload_n 0, 1) := by decide +kernel
theorem dX11_silent_11 : decode cX11_silent 11 = .ok (.getfield 65, 3) := by decide +kernel
theorem dX11_silent_14 : decode cX11_silent 14 = .ok (.iload_n 2, 1) := by decide +kernel
theorem dX11_silent_15 : decode cX11_silent 15 = .ok (.invokevirtual 362, 3) := by decide +kernel
theorem dX11_silent_18 : decode cX11_silent 18 = .ok (.ifCond .ne 9, 3) := by decide +kernel
theorem dX11_silent_21 : decode cX11_silent 21 = .ok (.iload_n 1, 1) := by decide +kernel
theorem dX11_silent_22 : decode cX11_silent 22 = .ok (.iconst 1, 1) := by decide +kernel
theorem dX11_silent_23 : decode cX11_silent 23 = .ok (.iload_n 2, 1) := by decide +kernel
theorem dX11_silent_24 : decode cX11_silent 24 = .ok (.ishl, 1) := by decide +kernel
theorem dX11_silent_25 : decode cX11_silent 25 = .ok (.ior, 1) := by decide +kernel
theorem dX11_silent_26 : decode cX11_silent 26 = .ok (.istore_n 1, 1) := by decide +kernel
theorem dX11_silent_27 : decode cX11_silent 27 = .ok (.iinc 2 1, 3) := by decide +kernel
theorem dX11_silent_30 : decode cX11_silent 30 = .ok (.goto (-26), 3) := by decide +kernel
theorem dX11_silent_33 : decode cX11_silent 33 = .ok (.iload_n 1, 1) := by decide +kernel
theorem dX11_silent_34 : decode cX11_silent 34 = .ok (.ireturn, 1) := by decide +kernel
theorem dX11_ahead_0 : decode cX11_ahead 0 = .ok (.aload_n 0, 1) := by decide +kernel
theorem dX11_ahead_1 : decode cX11_ahead 1 = .ok (.iload_n 1, 1) := by decide +kernel
theorem dX11_ahead_2 : decode cX11_ahead 2 = .ok (.invokevirtual 168, 3) := by decide +kernel
theorem dX11_ahead_5 : decode cX11_ahead 5 = .ok (.aload_n 0, 1) := by decide +kernel
theorem dX11_ahead_6 : decode cX11_ahead 6 = .ok (.iload_n 2, 1) := by decide +kernel
theorem dX11_ahead_7 : decode cX11_ahead 7 = .ok (.iconst 0, 1) := by decide +kernel
theorem dX11_ahead_8 : decode cX11_ahead 8 = .ok (.bipush 60, 2) := by decide +kernel
theorem dX11_ahead_10 : decode cX11_ahead 10 = .ok (.invokevirtual 256, 3) := by decide +kernel
theorem dX11_ahead_13 : decode cX11_ahead 13 = .ok (.aload_n 0, 1) := by decide +kernel
theorem dX11_ahead_14 : decode cX11_ahead 14 = .ok (.getfield 23, 3) := by decide +kernel
theorem dX11_ahead_17 : decode cX11_ahead 17 = .ok (.aload_n 0, 1) := by decide +kernel
theorem dX11_ahead_18 : decode cX11_ahead 18 = .ok (.getfield 19, 3) := by decide +kernel
theorem dX11_ahead_21 : decode cX11_ahead 21 = .ok (.invokevirtual 100, 3) := by decide +kernel
theorem dX11_ahead_24 : decode cX11_ahead 24 = .ok (.aload_n 0, 1) := by decide +kernel
theorem dX11_ahead_25 : decode cX11_ahead 25 = .ok (.getfield 56, 3) := by decide +kernel
theorem dX11_ahead_28 : decode cX11_ahead 28 = .ok (.aload_n 0, 1) := by decide +kernel
theorem dX11_ahead_29 : decode cX11_ahead 29 = .ok (.getfield 23, 3) := by decide +kernel
theorem dX11_ahead_32 : decode cX11_ahead 32 = .ok (.iload_n 2, 1) := by decide +kernel
theorem dX11_ahead_33 : decode cX11_ahead 33 = .ok (.iconst 0, 1) := by decide +kernel
theorem dX11_ahead_34 : decode cX11_ahead 34 = .ok (.invokevirtual 263, 3) := by decide +kernel
theorem dX11_ahead_37 : decode cX11_ahead 37 = .ok (.pop, 1) := by decide +kernel
theorem dX11_ahead_38 : decode cX11_ahead 38 = .ok (.aload_n 0, 1) := by decide +kernel
theorem dX11_ahead_39 : decode cX11_ahead 39 = .ok (.getfield 23, 3) := by decide +kernel
theorem dX11_ahead_42 : decode cX11_ahead 42 = .ok (.getfield 180, 3) := by decide +kernel
theorem dX11_ahead_45 : decode cX11_ahead 45 = .ok (.iload_n 1, 1) := by decide +kernel
theorem dX11_ahead_46 : decode cX11_ahead 46 = .ok (.iaload, 1) := by decide +kernel
theorem dX11_ahead_47 : decode cX11_ahead 47 = .ok (.ireturn, 1) := by decide +kernel
theorem dX11_trial_0 : decode cX11_trial 0 = .ok (.aload_n 0, 1) := by decide +kernel
theorem dX11_trial_1 : decode cX11_trial 1 = .ok (.iload_n 1, 1) := by decide +kernel
theorem dX11_trial_2 : decode cX11_trial 2 = .ok (.iconst 0, 1) := by decide +kernel
theorem dX11_trial_3 : decode cX11_trial 3 = .ok (.bipush 60, 2) := by decide +kernel
theorem dX11_trial_5 : decode cX11_trial 5 = .ok (.invokevirtual 256, 3) := by decide +kernel
theorem dX11_trial_8 : decode cX11_trial 8 = .ok (.aload_n 0, 1) := by decide +kernel
theorem dX11_trial_9 : decode cX11_trial 9 = .ok (.getfield 23, 3) := by decide +kernel
theorem dX11_trial_12 : decode cX11_trial 12 = .ok (.aload_n 0, 1) := by decide +kernel
theorem dX11_trial_13 : decode cX11_trial 13 = .ok (.getfield 19, 3) := by decide +kernel
theorem dX11_trial_16 : decode cX11_trial 16 = .ok (.invokevirtual 100, 3) := by decide +kernel
theorem dX11_trial_19 : decode cX11_trial 19 = .ok (.aload_n 0, 1) := by decide +kernel
theorem dX11_trial_20 : decode cX11_trial 20 = .ok (.getfield 56, 3) := by decide +kernel
theorem dX11_trial_23 : decode cX11_trial 23 = .ok (.aload_n 0, 1) := by decide +kernel
theorem dX11_trial_24 : decode cX11_trial 24 = .ok (.getfield 23, 3) := by decide +kernel
theorem dX11_trial_27 : decode cX11_trial 27 = .ok (.iload_n 1, 1) := by decide +kernel
theorem dX11_trial_28 : decode cX11_trial 28 = .ok (.iconst 1, 1) := by decide +kernel
theorem dX11_trial_29 : decode cX11_trial 29 = .ok (.invokevirtual 263, 3) := by decide +kernel
theorem dX11_trial_32 : decode cX11_trial 32 = .ok (.pop, 1) := by decide +kernel
theorem dX11_trial_33 : decode cX11_trial 33 = .ok (.iload_n 2, 1) := by decide +kernel
theorem dX11_trial_34 : decode cX11_trial 34 = .ok (.ifCond .eq 13, 3) := by decide +kernel
theorem dX11_trial_37 : decode cX11_trial 37 = .ok (.aload_n 0, 1) := by decide +kernel
theorem dX11_trial_38 : decode cX11_trial 38 = .ok (.getfield 23, 3) := by decide +kernel
theorem dX11_trial_41 : decode cX11_trial 41 = .ok (.invokevirtual 365, 3) := by decide +kernel
theorem dX11_trial_44 : decode cX11_trial 44 = .ok (.goto 11, 3) := by decide +kernel
theorem dX11_trial_47 : decode cX11_trial 47 = .ok (.aload_n 0, 1) := by decide +kernel
theorem dX11_trial_48 : decode cX11_trial 48 = .ok (.getfield 23, 3) := by decide +kernel
theorem dX11_trial_51 : decode cX11_trial 51 = .ok (.iconst 1, 1) := by decide +kernel
theorem dX11_trial_52 : decode cX11_trial 52 = .ok (.invokevirtual 368, 3) := by decide +kernel
theorem dX11_trial_55 : decode cX11_trial 55 = .ok (.ireturn, 1) := by decide +kernel
theorem dX11_span_0 : decode cX11_span 0 = .ok (.aload_n 0, 1) := by decide +kernel
theorem dX11_span_1 : decode cX11_span 1 = .ok (.iload_n 1, 1) := by decide +kernel
theorem dX11_span_2 : decode cX11_span 2 = .ok (.iconst 0, 1) := by decide +kernel
theorem dX11_span_3 : decode cX11_span 3 = .ok (.bipush 60, 2) := by decide +kernel
theorem dX11_span_5 : decode cX11_span 5 = .ok (.invokevirtual 256, 3) := by decide +kernel
theorem dX11_span_8 : decode cX11_span 8 = .ok (.bipush 100, 2) := by decide +kernel
theorem dX11_span_10 : decode cX11_span 10 = .ok (.istore_n 3, 1) := by decide +kernel
theorem dX11_span_11 : decode cX11_span 11 = .ok (.iconst 0, 1) := by decide +kernel
theorem dX11_span_12 : decode cX11_span 12 = .ok (.istore 4, 2) := by decide +kernel
theorem dX11_span_14 : decode cX11_span 14 = .ok (.iconst 1, 1) := by decide +kernel
theorem dX11_span_15 : decode cX11_span 15 = .ok (.istore 5, 2) := by decide +kernel
theorem dX11_span_17 : decode cX11_span 17 = .ok (.iload 5, 2) := by decide +kernel
theorem dX11_span_19 : decode cX11_span 19 = .ok (.bipush 6, 2) := by decide +kernel
theorem dX11_span_21 : decode cX11_span 21 = .ok (.if_icmp .gt 69, 3) := by decide +kernel
theorem dX11_span_24 : decode cX11_span 24 = .ok (.aload_n 0, 1) := by decide +kernel
theorem dX11_span_25 : decode cX11_span 25 = .ok (.getfield 23, 3) := by decide +kernel
theorem dX11_span_28 : decode cX11_span 28 = .ok (.aload_n 0, 1) := by decide +kernel
theorem dX11_span_29 : decode cX11_span 29 = .ok (.getfield 19, 3) := by decide +kernel
theorem dX11_span_32 : decode cX11_span 32 = .ok (.invokevirtual 100, 3) := by decide +kernel
theorem dX11_span_35 : decode cX11_span 35 = .ok (.aload_n 0, 1) := by decide +kernel
theorem dX11_span_36 : decode cX11_span 36 = .ok (.getfield 23, 3) := by decide +kernel
theorem dX11_span_39 : decode cX11_span 39 = .ok (.iload 5, 2) := by decide +kernel
theorem dX11_span_41 : decode cX11_span 41 = .ok (.putfield 371, 3) := by decide +kernel
theorem dX11_span_44 : decode cX11_span 44 = .ok (.aload_n 0, 1) := by decide +kernel
theorem dX11_span_45 : decode cX11_span 45 = .ok (.getfield 56, 3) := by decide +kernel
theorem dX11_span_48 : decode cX11_span 48 = .ok (.aload_n 0, 1) := by decide +kernel
theorem dX11_span_49 : decode cX11_span 49 = .ok (.getfield 23, 3) := by decide +kernel
theorem dX11_span_52 : decode cX11_span 52 = .ok (.iload_n 1, 1) := by decide +kernel
theorem dX11_span_53 : decode cX11_span 53 = .ok (.iconst 1, 1) := by decide +kernel
theorem dX11_span_54 : decode cX11_span 54 = .ok (.invokevirtual 263, 3) := by decide +kernel
theorem dX11_span_57 : decode cX11_span 57 = .ok (.pop, 1) := by decide +kernel
theorem dX11_span_58 : decode cX11_span 58 = .ok (.aload_n 0, 1) := by decide +kernel
theorem dX11_span_59 : decode cX11_span 59 = .ok (.getfield 23, 3) := by decide +kernel
theorem dX11_span_62 : decode cX11_span 62 = .ok (.iconst 2, 1) := by decide +kernel
theorem dX11_span_63 : decode cX11_span 63 = .ok (.invokevirtual 368, 3) := by decide +kernel
theorem dX11_span_66 : decode cX11_span 66 = .ok (.istore 6, 2) := by decide +kernel
theorem dX11_span_68 : decode cX11_span 68 = .ok (.iload_n 3, 1) := by decide +kernel
theorem dX11_span_69 : decode cX11_span 69 = .ok (.iload 6, 2) := by decide +kernel
theorem dX11_span_71 : decode cX11_span 71 = .ok (.invokestatic 275, 3) := by decide +kernel
theorem dX11_span_74 : decode cX11_span 74 = .ok (.istore_n 3, 1) := by decide +kernel
theorem dX11_span_75 : decode cX11_span 75 = .ok (.iload 4, 2) := by decide +kernel
theorem dX11_span_77 : decode cX11_span 77 = .ok (.iload 6, 2) := by decide +kernel
theorem dX11_span_79 : decode cX11_span 79 = .ok (.invokestatic 374, 3) := by decide +kernel
theorem dX11_span_82 : decode cX11_span 82 = .ok (.istore 4, 2) := by decide +kernel
theorem dX11_span_84 : decode cX11_span 84 = .ok (.iinc 5 1, 3) := by decide +kernel
theorem dX11_span_87 : decode cX11_span 87 = .ok (.goto (-70), 3) := by decide +kernel
theorem dX11_span_90 : decode cX11_span 90 = .ok (.iload_n 2, 1) := by decide +kernel
theorem dX11_span_91 : decode cX11_span 91 = .ok (.ifCond .eq 8, 3) := by decide +kernel
theorem dX11_span_94 : decode cX11_span 94 = .ok (.iload 4, 2) := by decide +kernel
theorem dX11_span_96 : decode cX11_span 96 = .ok (.goto 4, 3) := by decide +kernel
theorem dX11_span_99 : decode cX11_span 99 = .ok (.iload_n 3, 1) := by decide +kernel
theorem dX11_span_100 : decode cX11_span 100 = .ok (.ireturn, 1) := by decide +kernel
theorem dX11_led_0 : decode cX11_led 0 = .ok (.aload_n 0, 1) := by decide +kernel
theorem dX11_led_1 : decode cX11_led 1 = .ok (.iload_n 1, 1) := by decide +kernel
theorem dX11_led_2 : decode cX11_led 2 = .ok (.invokevirtual 168, 3) := by decide +kernel
theorem dX11_led_5 : decode cX11_led 5 = .ok (.iload_n 2, 1) := by decide +kernel
theorem dX11_led_6 : decode cX11_led 6 = .ok (.ifCond .eq 17, 3) := by decide +kernel
theorem dX11_led_9 : decode cX11_led 9 = .ok (.aload_n 0, 1) := by decide +kernel
theorem dX11_led_10 : decode cX11_led 10 = .ok (.getfield 19, 3) := by decide +kernel
theorem dX11_led_13 : decode cX11_led 13 = .ok (.getfield 377, 3) := by decide +kernel
theorem dX11_led_16 : decode cX11_led 16 = .ok (.iload_n 1, 1) := by decide +kernel
theorem dX11_led_17 : decode cX11_led 17 = .ok (.invokevirtual 381, 3) := by decide +kernel
theorem dX11_led_20 : decode cX11_led 20 = .ok (.goto 14, 3) := by decide +kernel
theorem dX11_led_23 : decode cX11_led 23 = .ok (.aload_n 0, 1) := by decide +kernel
theorem dX11_led_24 : decode cX11_led 24 = .ok (.getfield 19, 3) := by decide +kernel
theorem dX11_led_27 : decode cX11_led 27 = .ok (.getfield 377, 3) := by decide +kernel
theorem dX11_led_30 : decode cX11_led 30 = .ok (.iload_n 1, 1) := by decide +kernel
theorem dX11_led_31 : decode cX11_led 31 = .ok (.invokevirtual 386, 3) := by decide +kernel
theorem dX11_led_34 : decode cX11_led 34 = .ok (.ireturn, 1) := by decide +kernel
theorem dX11_log_0 : decode cX11_log 0 = .ok (.iload_n 2, 1) := by decide +kernel
theorem dX11_log_1 : decode cX11_log 1 = .ok (.ifCond .lt 8, 3) := by decide +kernel
theorem dX11_log_4 : decode cX11_log 4 = .ok (.iload_n 2, 1) := by decide +kernel
theorem dX11_log_5 : decode cX11_log 5 = .ok (.iconst 4, 1) := by decide +kernel
theorem dX11_log_6 : decode cX11_log 6 = .ok (.if_icmp .lt 14, 3) := by decide +kernel
theorem dX11_log_9 : decode cX11_log 9 = .ok (.new 159, 3) := by decide +kernel
theorem dX11_log_12 : decode cX11_log 12 = .ok (.dup, 1) := by decide +kernel
theorem dX11_log_13 : decode cX11_log 13 = .ok (.ldc_w 389, 3) := by decide +kernel
theorem dX11_log_16 : decode cX11_log 16 = .ok (.invokespecial 163, 3) := by decide +kernel
theorem dX11_log_19 : decode cX11_log 19 = .ok (.athrow, 1) := by decide +kernel
theorem dX11_log_20 : decode cX11_log 20 = .ok (.aload_n 0, 1) := by decide +kernel
theorem dX11_log_21 : decode cX11_log 21 = .ok (.getfield 19, 3) := by decide +kernel
theorem dX11_log_24 : decode cX11_log 24 = .ok (.getfield 377, 3) := by decide +kernel
theorem dX11_log_27 : decode cX11_log 27 = .ok (.iload_n 1, 1) := by decide +kernel
theorem dX11_log_28 : decode cX11_log 28 = .ok (.iload_n 2, 1) := by decide +kernel
theorem dX11_log_29 : decode cX11_log 29 = .ok (.invokevirtual 391, 3) := by decide +kernel
theorem dX11_log_32 : decode cX11_log 32 = .ok (.ireturn, 1) := by decide +kernel
theorem dX11_seed_0 : decode cX11_seed 0 = .ok (.aload_n 0, 1) := by decide +kernel
theorem dX11_seed_1 : decode cX11_seed 1 = .ok (.getfield 19, 3) := by decide +kernel
theorem dX11_seed_4 : decode cX11_seed 4 = .ok (.getfield 371, 3) := by decide +kernel
theorem dX11_seed_7 : decode cX11_seed 7 = .ok (.istore_n 2, 1) := by decide +kernel
theorem dX11_seed_8 : decode cX11_seed 8 = .ok (.aload_n 0, 1) := by decide +kernel
theorem dX11_seed_9 : decode cX11_seed 9 = .ok (.getfield 19, 3) := by decide +kernel
theorem dX11_seed_12 : decode cX11_seed 12 = .ok (.iload_n 1, 1) := by decide +kernel
theorem dX11_seed_13 : decode cX11_seed 13 = .ok (.putfield 371, 3) := by decide +kernel
theorem dX11_seed_16 : decode cX11_seed 16 = .ok (.iload_n 2, 1) := by decide +kernel
theorem dX11_seed_17 : decode cX11_seed 17 = .ok (.ireturn, 1) := by decide +kernel
theorem dX11_undo_0 : decode cX11_undo 0 = .ok (.aload_n 0, 1) := by decide +kernel
theorem dX11_undo_1 : decode cX11_undo 1 = .ok (.getfield 394, 3) := by decide +kernel
theorem dX11_undo_4 : decode cX11_undo 4 = .ok (.ifCond .gt 5, 3) := by decide +kernel
theorem dX11_undo_7 : decode cX11_undo 7 = .ok (.iconst 0, 1) := by decide +kernel
theorem dX11_undo_8 : decode cX11_undo 8 = .ok (.ireturn, 1) := by decide +kernel
theorem dX11_undo_9 : decode cX11_undo 9 = .ok (.aload_n 0, 1) := by decide +kernel
theorem dX11_undo_10 : decode cX11_undo 10 = .ok (.getfield 85, 3) := by decide +kernel
theorem dX11_undo_13 : decode cX11_undo 13 = .ok (.aload_n 0, 1) := by decide +kernel
theorem dX11_undo_14 : decode cX11_undo 14 = .ok (.getfield 397, 3) := by decide +kernel
theorem dX11_undo_17 : decode cX11_undo 17 = .ok (.aload_n 0, 1) := by decide +kernel
theorem dX11_undo_18 : decode cX11_undo 18 = .ok (.getfield 394, 3) := by decide +kernel
theorem dX11_undo_21 : decode cX11_undo 21 = .ok (.iadd, 1) := by decide +kernel
theorem dX11_undo_22 : decode cX11_undo 22 = .ok (.iconst 1, 1) := by decide +kernel
theorem dX11_undo_23 : decode cX11_undo 23 = .ok (.isub, 1) := by decide +kernel
theorem dX11_undo_24 : decode cX11_undo 24 = .ok (.bipush 12, 2) := by decide +kernel
theorem dX11_undo_26 : decode cX11_undo 26 = .ok (.irem, 1) := by decide +kernel
theorem dX11_undo_27 : decode cX11_undo 27 = .ok (.aaload, 1) := by decide +kernel
theorem dX11_undo_28 : decode cX11_undo 28 = .ok (.astore_n 1, 1) := by decide +kernel
theorem dX11_undo_29 : decode cX11_undo 29 = .ok (.aload_n 1, 1) := by decide +kernel
theorem dX11_undo_30 : decode cX11_undo 30 = .ok (.ifnonnull 5, 3) := by decide +kernel
theorem dX11_undo_33 : decode cX11_undo 33 = .ok (.iconst 0, 1) := by decide +kernel
theorem dX11_undo_34 : decode cX11_undo 34 = .ok (.ireturn, 1) := by decide +kernel
theorem dX11_undo_35 : decode cX11_undo 35 = .ok (.aload_n 0, 1) := by decide +kernel
theorem dX11_undo_36 : decode cX11_undo 36 = .ok (.getfield 19, 3) := by decide +kernel
theorem dX11_undo_39 : decode cX11_undo 39 = .ok (.aload_n 1, 1) := by decide +kernel
theorem dX11_undo_40 : decode cX11_undo 40 = .ok (.invokevirtual 100, 3) := by decide +kernel
theorem dX11_undo_43 : decode cX11_undo 43 = .ok (.aload_n 0, 1) := by decide +kernel
theorem dX11_undo_44 : decode cX11_undo 44 = .ok (.dup, 1) := by decide +kernel
theorem dX11_undo_45 : decode cX11_undo 45 = .ok (.getfield 394, 3) := by decide +kernel
theorem dX11_undo_48 : decode cX11_undo 48 = .ok (.iconst 1, 1) := by decide +kernel
theorem dX11_undo_49 : decode cX11_undo 49 = .ok (.isub, 1) := by decide +kernel
theorem dX11_undo_50 : decode cX11_undo 50 = .ok (.putfield 394, 3) := by decide +kernel
theorem dX11_undo_53 : decode cX11_undo 53 = .ok (.iconst 1, 1) := by decide +kernel
theorem dX11_undo_54 : decode cX11_undo 54 = .ok (.ireturn, 1) := by decide +kernel
theorem dX11_image_0 : decode cX11_image 0 = .ok (.aload_n 0, 1) := by decide +kernel
theorem dX11_image_1 : decode cX11_image 1 = .ok (.getfield 400, 3) := by decide +kernel
theorem dX11_image_4 : decode cX11_image 4 = .ok (.ifnonnull 14, 3) := by decide +kernel
theorem dX11_image_7 : decode cX11_image 7 = .ok (.aload_n 0, 1) := by decide +kernel
theorem dX11_image_8 : decode cX11_image 8 = .ok (.new 16, 3) := by decide +kernel
theorem dX11_image_11 : decode cX11_image 11 = .ok (.dup, 1) := by decide +kernel
theorem dX11_image_12 : decode cX11_image 12 = .ok (.invokespecial 18, 3) := by decide +kernel
theorem dX11_image_15 : decode cX11_image 15 = .ok (.putfield 400, 3) := by decide +kernel
theorem dX11_image_18 : decode cX11_image 18 = .ok (.aload_n 0, 1) := by decide +kernel
theorem dX11_image_19 : decode cX11_image 19 = .ok (.getfield 400, 3) := by decide +kernel
theorem dX11_image_22 : decode cX11_image 22 = .ok (.aload_n 0, 1) := by decide +kernel
theorem dX11_image_23 : decode cX11_image 23 = .ok (.getfield 19, 3) := by decide +kernel
theorem dX11_image_26 : decode cX11_image 26 = .ok (.invokevirtual 100, 3) := by decide +kernel
theorem dX11_image_29 : decode cX11_image 29 = .ok (.return_, 1) := by decide +kernel
theorem dX11_back_0 : decode cX11_back 0 = .ok (.aload_n 0, 1) := by decide +kernel
theorem dX11_back_1 : decode cX11_back 1 = .ok (.getfield 400, 3) := by decide +kernel
theorem dX11_back_4 : decode cX11_back 4 = .ok (.ifnonnull 5, 3) := by decide +kernel
theorem dX11_back_7 : decode cX11_back 7 = .ok (.iconst 0, 1) := by decide +kernel
theorem dX11_back_8 : decode cX11_back 8 = .ok (.ireturn, 1) := by decide +kernel
theorem dX11_back_9 : decode cX11_back 9 = .ok (.aload_n 0, 1) := by decide +kernel
theorem dX11_back_10 : decode cX11_back 10 = .ok (.getfield 19, 3) := by decide +kernel
theorem dX11_back_13 : decode cX11_back 13 = .ok (.aload_n 0, 1) := by decide +kernel
theorem dX11_back_14 : decode cX11_back 14 = .ok (.getfield 400, 3) := by decide +kernel
theorem dX11_back_17 : decode cX11_back 17 = .ok (.invokevirtual 100, 3) := by decide +kernel
theorem dX11_back_20 : decode cX11_back 20 = .ok (.aload_n 0, 1) := by decide +kernel
theorem dX11_back_21 : decode cX11_back 21 = .ok (.invokevirtual 125, 3) := by decide +kernel
theorem dX11_back_24 : decode cX11_back 24 = .ok (.iconst 1, 1) := by decide +kernel
theorem dX11_back_25 : decode cX11_back 25 = .ok (.ireturn, 1) := by decide +kernel
theorem dX11_count_0 : decode cX11_count 0 = .ok (.iload_n 1, 1) := by decide +kernel
theorem dX11_count_1 : decode cX11_count 1 = .ok (.tableswitch 176 0 11 #[63, 71, 79, 87, 112, 120, 128, 136, 144, 152, 160, 171], 63) := by decide +kernel
theorem dX11_count_64 : decode cX11_count 64 = .ok (.aload_n 0, 1) := by decide +kernel
theorem dX11_count_65 : decode cX11_count 65 = .ok (.getfield 19, 3) := by decide +kernel
theorem dX11_count_68 : decode cX11_count 68 = .ok (.getfield 352, 3) := by decide +kernel
theorem dX11_count_71 : decode cX11_count 71 = .ok (.ireturn, 1) := by decide +kernel
theorem dX11_count_72 : decode cX11_count 72 = .ok (.aload_n 0, 1) := by decide +kernel
theorem dX11_count_73 : decode cX11_count 73 = .ok (.getfield 19, 3) := by decide +kernel
theorem dX11_count_76 : decode cX11_count 76 = .ok (.getfield 326, 3) := by decide +kernel
theorem dX11_count_79 : decode cX11_count 79 = .ok (.ireturn, 1) := by decide +kernel
theorem dX11_count_80 : decode cX11_count 80 = .ok (.aload_n 0, 1) := by decide +kernel
theorem dX11_count_81 : decode cX11_count 81 = .ok (.getfield 19, 3) := by decide +kernel
theorem dX11_count_84 : decode cX11_count 84 = .ok (.getfield 117, 3) := by decide +kernel
theorem dX11_count_87 : decode cX11_count 87 = .ok (.ireturn, 1) := by decide +kernel
theorem dX11_count_88 : decode cX11_count 88 = .ok (.aload_n 0, 1) := by decide +kernel
theorem dX11_count_89 : decode cX11_count 89 = .ok (.getfield 19, 3) := by decide +kernel
theorem dX11_count_92 : decode cX11_count 92 = .ok (.getfield 133, 3) := by decide +kernel
theorem dX11_count_95 : decode cX11_count 95 = .ok (.ifnonnull 7, 3) := by decide +kernel
theorem dX11_count_98 : decode cX11_count 98 = .ok (.iconst (-1), 1) := by decide +kernel
theorem dX11_count_99 : decode cX11_count 99 = .ok (.goto 13, 3) := by decide +kernel
theorem dX11_count_102 : decode cX11_count 102 = .ok (.aload_n 0, 1) := by decide +kernel
theorem dX11_count_103 : decode cX11_count 103 = .ok (.getfield 19, 3) := by decide +kernel
theorem dX11_count_106 : decode cX11_count 106 = .ok (.getfield 133, 3) := by decide +kernel
theorem dX11_count_109 : decode cX11_count 109 = .ok (.getfield 137, 3) := by decide +kernel
theorem dX11_count_112 : decode cX11_count 112 = .ok (.ireturn, 1) := by decide +kernel
theorem dX11_count_113 : decode cX11_count 113 = .ok (.aload_n 0, 1) := by decide +kernel
theorem dX11_count_114 : decode cX11_count 114 = .ok (.getfield 19, 3) := by decide +kernel
theorem dX11_count_117 : decode cX11_count 117 = .ok (.getfield 223, 3) := by decide +kernel
theorem dX11_count_120 : decode cX11_count 120 = .ok (.ireturn, 1) := by decide +kernel
theorem dX11_count_121 : decode cX11_count 121 = .ok (.aload_n 0, 1) := by decide +kernel
theorem dX11_count_122 : decode cX11_count 122 = .ok (.getfield 19, 3) := by decide +kernel
theorem dX11_count_125 : decode cX11_count 125 = .ok (.getfield 229, 3) := by decide +kernel
theorem dX11_count_128 : decode cX11_count 128 = .ok (.ireturn, 1) := by decide +kernel
theorem dX11_count_129 : decode cX11_count 129 = .ok (.aload_n 0, 1) := by decide +kernel
theorem dX11_count_130 : decode cX11_count 130 = .ok (.getfield 19, 3) := by decide +kernel
theorem dX11_count_133 : decode cX11_count 133 = .ok (.getfield 200, 3) := by decide +kernel
theorem dX11_count_136 : decode cX11_count 136 = .ok (.ireturn, 1) := by decide +kernel
theorem dX11_count_137 : decode cX11_count 137 = .ok (.aload_n 0, 1) := by decide +kernel
theorem dX11_count_138 : decode cX11_count 138 = .ok (.getfield 19, 3) := by decide +kernel
theorem dX11_count_141 : decode cX11_count 141 = .ok (.getfield 403, 3) := by decide +kernel
theorem dX11_count_144 : decode cX11_count 144 = .ok (.ireturn, 1) := by decide +kernel
theorem dX11_count_145 : decode cX11_count 145 = .ok (.aload_n 0, 1) := by decide +kernel
theorem dX11_count_146 : decode cX11_count 146 = .ok (.getfield 19, 3) := by decide +kernel
theorem dX11_count_149 : decode cX11_count 149 = .ok (.getfield 406, 3) := by decide +kernel
theorem dX11_count_152 : decode cX11_count 152 = .ok (.ireturn, 1) := by decide +kernel
theorem dX11_count_153 : decode cX11_count 153 = .ok (.aload_n 0, 1) := by decide +kernel
theorem dX11_count_154 : decode cX11_count 154 = .ok (.getfield 19, 3) := by decide +kernel
theorem dX11_count_157 : decode cX11_count 157 = .ok (.invokevirtual 365, 3) := by decide +kernel
theorem dX11_count_160 : decode cX11_count 160 = .ok (.ireturn, 1) := by decide +kernel
theorem dX11_count_161 : decode cX11_count 161 = .ok (.aload_n 0, 1) := by decide +kernel
theorem dX11_count_162 : decode cX11_count 162 = .ok (.getfield 19, 3) := by decide +kernel
theorem dX11_count_165 : decode cX11_count 165 = .ok (.getfield 377, 3) := by decide +kernel
theorem dX11_count_168 : decode cX11_count 168 = .ok (.getfield 409, 3) := by decide +kernel
theorem dX11_count_171 : decode cX11_count 171 = .ok (.ireturn, 1) := by decide +kernel
theorem dX11_count_172 : decode cX11_count 172 = .ok (.aload_n 0, 1) := by decide +kernel
theorem dX11_count_173 : decode cX11_count 173 = .ok (.getfield 394, 3) := by decide +kernel
theorem dX11_count_176 : decode cX11_count 176 = .ok (.ireturn, 1) := by decide +kernel
theorem dX11_count_177 : decode cX11_count 177 = .ok (.iconst (-1), 1) := by decide +kernel
theorem dX11_count_178 : decode cX11_count 178 = .ok (.ireturn, 1) := by decide +kernel
theorem dX11_needWord_0 : decode cX11_needWord 0 = .ok (.iload_n 1, 1) := by decide +kernel
theorem dX11_needWord_1 : decode cX11_needWord 1 = .ok (.ifCond .lt 14, 3) := by decide +kernel
theorem dX11_needWord_4 : decode cX11_needWord 4 = .ok (.iload_n 1, 1) := by decide +kernel
theorem dX11_needWord_5 : decode cX11_needWord 5 = .ok (.aload_n 0, 1) := by decide +kernel
theorem dX11_needWord_6 : decode cX11_needWord 6 = .ok (.getfield 19, 3) := by decide +kernel
theorem dX11_needWord_9 : decode cX11_needWord 9 = .ok (.getfield 352, 3) := by decide +kernel
theorem dX11_needWord_12 : decode cX11_needWord 12 = .ok (.if_icmp .lt 14, 3) := by decide +kernel
theorem dX11_needWord_15 : decode cX11_needWord 15 = .ok (.new 412, 3) := by decide +kernel
theorem dX11_needWord_18 : decode cX11_needWord 18 = .ok (.dup, 1) := by decide +kernel
theorem dX11_needWord_19 : decode cX11_needWord 19 = .ok (.ldc_w 414, 3) := by decide +kernel
theorem dX11_needWord_22 : decode cX11_needWord 22 = .ok (.invokespecial 416, 3) := by decide +kernel
theorem dX11_needWord_25 : decode cX11_needWord 25 = .ok (.athrow, 1) := by decide +kernel
theorem dX11_needWord_26 : decode cX11_needWord 26 = .ok (.return_, 1) := by decide +kernel
theorem dX11_needWriter_0 : decode cX11_needWriter 0 = .ok (.iload_n 1, 1) := by decide +kernel
theorem dX11_needWriter_1 : decode cX11_needWriter 1 = .ok (.ifCond .lt 14, 3) := by decide +kernel
theorem dX11_needWriter_4 : decode cX11_needWriter 4 = .ok (.iload_n 1, 1) := by decide +kernel
theorem dX11_needWriter_5 : decode cX11_needWriter 5 = .ok (.aload_n 0, 1) := by decide +kernel
theorem dX11_needWriter_6 : decode cX11_needWriter 6 = .ok (.getfield 19, 3) := by decide +kernel
theorem dX11_needWriter_9 : decode cX11_needWriter 9 = .ok (.getfield 326, 3) := by decide +kernel
theorem dX11_needWriter_12 : decode cX11_needWriter 12 = .ok (.if_icmp .lt 14, 3) := by decide +kernel
theorem dX11_needWriter_15 : decode cX11_needWriter 15 = .ok (.new 412, 3) := by decide +kernel
theorem dX11_needWriter_18 : decode cX11_needWriter 18 = .ok (.dup, 1) := by decide +kernel
theorem dX11_needWriter_19 : decode cX11_needWriter 19 = .ok (.ldc_w 417, 3) := by decide +kernel
theorem dX11_needWriter_22 : decode cX11_needWriter 22 = .ok (.invokespecial 416, 3) := by decide +kernel
theorem dX11_needWriter_25 : decode cX11_needWriter 25 = .ok (.athrow, 1) := by decide +kernel
theorem dX11_needWriter_26 : decode cX11_needWriter 26 = .ok (.return_, 1) := by decide +kernel
theorem dX11_needLetter_0 : decode cX11_needLetter 0 = .ok (.iload_n 1, 1) := by decide +kernel
theorem dX11_needLetter_1 : decode cX11_needLetter 1 = .ok (.ifCond .lt 9, 3) := by decide +kernel
theorem dX11_needLetter_4 : decode cX11_needLetter 4 = .ok (.iload_n 1, 1) := by decide +kernel
theorem dX11_needLetter_5 : decode cX11_needLetter 5 = .ok (.bipush 8, 2) := by decide +kernel
theorem dX11_needLetter_7 : decode cX11_needLetter 7 = .ok (.if_icmp .lt 14, 3) := by decide +kernel
theorem dX11_needLetter_10 : decode cX11_needLetter 10 = .ok (.new 412, 3) := by decide +kernel
theorem dX11_needLetter_13 : decode cX11_needLetter 13 = .ok (.dup, 1) := by decide +kernel
theorem dX11_needLetter_14 : decode cX11_needLetter 14 = .ok (.ldc_w 419, 3) := by decide +kernel
theorem dX11_needLetter_17 : decode cX11_needLetter 17 = .ok (.invokespecial 416, 3) := by decide +kernel
theorem dX11_needLetter_20 : decode cX11_needLetter 20 = .ok (.athrow, 1) := by decide +kernel
theorem dX11_needLetter_21 : decode cX11_needLetter 21 = .ok (.return_, 1) := by decide +kernel
theorem dX11_needNumber_0 : decode cX11_needNumber 0 = .ok (.iload_n 1, 1) := by decide +kernel
theorem dX11_needNumber_1 : decode cX11_needNumber 1 = .ok (.iload_n 2, 1) := by decide +kernel
theorem dX11_needNumber_2 : decode cX11_needNumber 2 = .ok (.if_icmp .lt 8, 3) := by decide +kernel
theorem dX11_needNumber_5 : decode cX11_needNumber 5 = .ok (.iload_n 1, 1) := by decide +kernel
theorem dX11_needNumber_6 : decode cX11_needNumber 6 = .ok (.iload_n 3, 1) := by decide +kernel
theorem dX11_needNumber_7 : decode cX11_needNumber 7 = .ok (.if_icmp .le 14, 3) := by decide +kernel
theorem dX11_needNumber_10 : decode cX11_needNumber 10 = .ok (.new 110, 3) := by decide +kernel
theorem dX11_needNumber_13 : decode cX11_needNumber 13 = .ok (.dup, 1) := by decide +kernel
theorem dX11_needNumber_14 : decode cX11_needNumber 14 = .ok (.ldc_w 421, 3) := by decide +kernel
theorem dX11_needNumber_17 : decode cX11_needNumber 17 = .ok (.invokespecial 114, 3) := by decide +kernel
theorem dX11_needNumber_20 : decode cX11_needNumber 20 = .ok (.athrow, 1) := by decide +kernel
theorem dX11_needNumber_21 : decode cX11_needNumber 21 = .ok (.return_, 1) := by decide +kernel
theorem dX11_needRows_0 : decode cX11_needRows 0 = .ok (.iload_n 1, 1) := by decide +kernel
theorem dX11_needRows_1 : decode cX11_needRows 1 = .ok (.ifCond .ne 14, 3) := by decide +kernel
theorem dX11_needRows_4 : decode cX11_needRows 4 = .ok (.new 110, 3) := by decide +kernel
theorem dX11_needRows_7 : decode cX11_needRows 7 = .ok (.dup, 1) := by decide +kernel
theorem dX11_needRows_8 : decode cX11_needRows 8 = .ok (.ldc_w 423, 3) := by decide +kernel
theorem dX11_needRows_11 : decode cX11_needRows 11 = .ok (.invokespecial 114, 3) := by decide +kernel
theorem dX11_needRows_14 : decode cX11_needRows 14 = .ok (.athrow, 1) := by decide +kernel
theorem dX11_needRows_15 : decode cX11_needRows 15 = .ok (.return_, 1) := by decide +kernel
theorem dX11_handOf_0 : decode cX11_handOf 0 = .ok (.aload_n 0, 1) := by decide +kernel
theorem dX11_handOf_1 : decode cX11_handOf 1 = .ok (.getfield 47, 3) := by decide +kernel
theorem dX11_handOf_4 : decode cX11_handOf 4 = .ok (.aload_n 0, 1) := by decide +kernel
theorem dX11_handOf_5 : decode cX11_handOf 5 = .ok (.getfield 19, 3) := by decide +kernel
theorem dX11_handOf_8 : decode cX11_handOf 8 = .ok (.aload_n 0, 1) := by decide +kernel
theorem dX11_handOf_9 : decode cX11_handOf 9 = .ok (.getfield 19, 3) := by decide +kernel
theorem dX11_handOf_12 : decode cX11_handOf 12 = .ok (.getfield 171, 3) := by decide +kernel
theorem dX11_handOf_15 : decode cX11_handOf 15 = .ok (.iload_n 1, 1) := by decide +kernel
theorem dX11_handOf_16 : decode cX11_handOf 16 = .ok (.iaload, 1) := by decide +kernel
theorem dX11_handOf_17 : decode cX11_handOf 17 = .ok (.invokevirtual 285, 3) := by decide +kernel
theorem dX11_handOf_20 : decode cX11_handOf 20 = .ok (.aload_n 0, 1) := by decide +kernel
theorem dX11_handOf_21 : decode cX11_handOf 21 = .ok (.getfield 47, 3) := by decide +kernel
theorem dX11_handOf_24 : decode cX11_handOf 24 = .ok (.areturn, 1) := by decide +kernel
theorem dX11_greatest_0 : decode cX11_greatest 0 = .ok (.iconst (-1), 1) := by decide +kernel
theorem dX11_greatest_1 : decode cX11_greatest 1 = .ok (.istore_n 3, 1) := by decide +kernel
theorem dX11_greatest_2 : decode cX11_greatest 2 = .ok (.iconst 0, 1) := by decide +kernel
theorem dX11_greatest_3 : decode cX11_greatest 3 = .ok (.istore 4, 2) := by decide +kernel
theorem dX11_greatest_5 : decode cX11_greatest 5 = .ok (.iload 4, 2) := by decide +kernel
theorem dX11_greatest_7 : decode cX11_greatest 7 = .ok (.iload_n 2, 1) := by decide +kernel
theorem dX11_greatest_8 : decode cX11_greatest 8 = .ok (.if_icmp .ge 27, 3) := by decide +kernel
theorem dX11_greatest_11 : decode cX11_greatest 11 = .ok (.iload_n 3, 1) := by decide +kernel
theorem dX11_greatest_12 : decode cX11_greatest 12 = .ok (.iconst (-1), 1) := by decide +kernel
theorem dX11_greatest_13 : decode cX11_greatest 13 = .ok (.if_icmp .eq 13, 3) := by decide +kernel
theorem dX11_greatest_16 : decode cX11_greatest 16 = .ok (.aload_n 1, 1) := by decide +kernel
theorem dX11_greatest_17 : decode cX11_greatest 17 = .ok (.iload 4, 2) := by decide +kernel
theorem dX11_greatest_19 : decode cX11_greatest 19 = .ok (.iaload, 1) := by decide +kernel
theorem dX11_greatest_20 : decode cX11_greatest 20 = .ok (.aload_n 1, 1) := by decide +kernel
theorem dX11_greatest_21 : decode cX11_greatest 21 = .ok (.iload_n 3, 1) := by decide +kernel
theorem dX11_greatest_22 : decode cX11_greatest 22 = .ok (.iaload, 1) := by decide +kernel
theorem dX11_greatest_23 : decode cX11_greatest 23 = .ok (.if_icmp .le 6, 3) := by decide +kernel
theorem dX11_greatest_26 : decode cX11_greatest 26 = .ok (.iload 4, 2) := by decide +kernel
theorem dX11_greatest_28 : decode cX11_greatest 28 = .ok (.istore_n 3, 1) := by decide +kernel
theorem dX11_greatest_29 : decode cX11_greatest 29 = .ok (.iinc 4 1, 3) := by decide +kernel
theorem dX11_greatest_32 : decode cX11_greatest 32 = .ok (.goto (-27), 3) := by decide +kernel
theorem dX11_greatest_35 : decode cX11_greatest 35 = .ok (.iload_n 3, 1) := by decide +kernel
theorem dX11_greatest_36 : decode cX11_greatest 36 = .ok (.ireturn, 1) := by decide +kernel
theorem dX11_rememberNow_0 : decode cX11_rememberNow 0 = .ok (.aload_n 0, 1) := by decide +kernel
theorem dX11_rememberNow_1 : decode cX11_rememberNow 1 = .ok (.getfield 394, 3) := by decide +kernel
theorem dX11_rememberNow_4 : decode cX11_rememberNow 4 = .ok (.bipush 12, 2) := by decide +kernel
theorem dX11_rememberNow_6 : decode cX11_rememberNow 6 = .ok (.if_icmp .lt 22, 3) := by decide +kernel
theorem dX11_rememberNow_9 : decode cX11_rememberNow 9 = .ok (.aload_n 0, 1) := by decide +kernel
theorem dX11_rememberNow_10 : decode cX11_rememberNow 10 = .ok (.aload_n 0, 1) := by decide +kernel
theorem dX11_rememberNow_11 : decode cX11_rememberNow 11 = .ok (.getfield 397, 3) := by decide +kernel
theorem dX11_rememberNow_14 : decode cX11_rememberNow 14 = .ok (.iconst 1, 1) := by decide +kernel
theorem dX11_rememberNow_15 : decode cX11_rememberNow 15 = .ok (.iadd, 1) := by decide +kernel
theorem dX11_rememberNow_16 : decode cX11_rememberNow 16 = .ok (.bipush 12, 2) := by decide +kernel
theorem dX11_rememberNow_18 : decode cX11_rememberNow 18 = .ok (.irem, 1) := by decide +kernel
theorem dX11_rememberNow_19 : decode cX11_rememberNow 19 = .ok (.putfield 397, 3) := by decide +kernel
theorem dX11_rememberNow_22 : decode cX11_rememberNow 22 = .ok (.aload_n 0, 1) := by decide +kernel
theorem dX11_rememberNow_23 : decode cX11_rememberNow 23 = .ok (.bipush 11, 2) := by decide +kernel
theorem dX11_rememberNow_25 : decode cX11_rememberNow 25 = .ok (.putfield 394, 3) := by decide +kernel
theorem dX11_rememberNow_28 : decode cX11_rememberNow 28 = .ok (.aload_n 0, 1) := by decide +kernel
theorem dX11_rememberNow_29 : decode cX11_rememberNow 29 = .ok (.getfield 397, 3) := by decide +kernel
theorem dX11_rememberNow_32 : decode cX11_rememberNow 32 = .ok (.aload_n 0, 1) := by decide +kernel
theorem dX11_rememberNow_33 : decode cX11_rememberNow 33 = .ok (.getfield 394, 3) := by decide +kernel
theorem dX11_rememberNow_36 : decode cX11_rememberNow 36 = .ok (.iadd, 1) := by decide +kernel
theorem dX11_rememberNow_37 : decode cX11_rememberNow 37 = .ok (.bipush 12, 2) := by decide +kernel
theorem dX11_rememberNow_39 : decode cX11_rememberNow 39 = .ok (.irem, 1) := by decide +kernel
theorem dX11_rememberNow_40 : decode cX11_rememberNow 40 = .ok (.istore_n 1, 1) := by decide +kernel
theorem dX11_rememberNow_41 : decode cX11_rememberNow 41 = .ok (.aload_n 0, 1) := by decide +kernel
theorem dX11_rememberNow_42 : decode cX11_rememberNow 42 = .ok (.getfield 85, 3) := by decide +kernel
theorem dX11_rememberNow_45 : decode cX11_rememberNow 45 = .ok (.iload_n 1, 1) := by decide +kernel
theorem dX11_rememberNow_46 : decode cX11_rememberNow 46 = .ok (.aaload, 1) := by decide +kernel
theorem dX11_rememberNow_47 : decode cX11_rememberNow 47 = .ok (.ifnonnull 16, 3) := by decide +kernel
theorem dX11_rememberNow_50 : decode cX11_rememberNow 50 = .ok (.aload_n 0, 1) := by decide +kernel
theorem dX11_rememberNow_51 : decode cX11_rememberNow 51 = .ok (.getfield 85, 3) := by decide +kernel
theorem dX11_rememberNow_54 : decode cX11_rememberNow 54 = .ok (.iload_n 1, 1) := by decide +kernel
theorem dX11_rememberNow_55 : decode cX11_rememberNow 55 = .ok (.new 16, 3) := by decide +kernel
theorem dX11_rememberNow_58 : decode cX11_rememberNow 58 = .ok (.dup, 1) := by decide +kernel
theorem dX11_rememberNow_59 : decode cX11_rememberNow 59 = .ok (.invokespecial 18, 3) := by decide +kernel
theorem dX11_rememberNow_62 : decode cX11_rememberNow 62 = .ok (.aastore, 1) := by decide +kernel
theorem dX11_rememberNow_63 : decode cX11_rememberNow 63 = .ok (.aload_n 0, 1) := by decide +kernel
theorem dX11_rememberNow_64 : decode cX11_rememberNow 64 = .ok (.getfield 85, 3) := by decide +kernel
theorem dX11_rememberNow_67 : decode cX11_rememberNow 67 = .ok (.iload_n 1, 1) := by decide +kernel
theorem dX11_rememberNow_68 : decode cX11_rememberNow 68 = .ok (.aaload, 1) := by decide +kernel
theorem dX11_rememberNow_69 : decode cX11_rememberNow 69 = .ok (.aload_n 0, 1) := by decide +kernel
theorem dX11_rememberNow_70 : decode cX11_rememberNow 70 = .ok (.getfield 19, 3) := by decide +kernel
theorem dX11_rememberNow_73 : decode cX11_rememberNow 73 = .ok (.invokevirtual 100, 3) := by decide +kernel
theorem dX11_rememberNow_76 : decode cX11_rememberNow 76 = .ok (.aload_n 0, 1) := by decide +kernel
theorem dX11_rememberNow_77 : decode cX11_rememberNow 77 = .ok (.dup, 1) := by decide +kernel
theorem dX11_rememberNow_78 : decode cX11_rememberNow 78 = .ok (.getfield 394, 3) := by decide +kernel
theorem dX11_rememberNow_81 : decode cX11_rememberNow 81 = .ok (.iconst 1, 1) := by decide +kernel
theorem dX11_rememberNow_82 : decode cX11_rememberNow 82 = .ok (.iadd, 1) := by decide +kernel
theorem dX11_rememberNow_83 : decode cX11_rememberNow 83 = .ok (.putfield 394, 3) := by decide +kernel
theorem dX11_rememberNow_86 : decode cX11_rememberNow 86 = .ok (.return_, 1) := by decide +kernel
theorem dX11_forgetActs_0 : decode cX11_forgetActs 0 = .ok (.aload_n 0, 1) := by decide +kernel
theorem dX11_forgetActs_1 : decode cX11_forgetActs 1 = .ok (.iconst 0, 1) := by decide +kernel
theorem dX11_forgetActs_2 : decode cX11_forgetActs 2 = .ok (.putfield 394, 3) := by decide +kernel
theorem dX11_forgetActs_5 : decode cX11_forgetActs 5 = .ok (.return_, 1) := by decide +kernel
theorem dJ6_bitCount_0f7a4_0 : decode cJ6_bitCount_0f7a4 0 = .ok (.iload_n 0, 1) := by decide +kernel
theorem dJ6_bitCount_0f7a4_1 : decode cJ6_bitCount_0f7a4 1 = .ok (.iload_n 0, 1) := by decide +kernel
theorem dJ6_bitCount_0f7a4_2 : decode cJ6_bitCount_0f7a4 2 = .ok (.iconst 1, 1) := by decide +kernel
theorem dJ6_bitCount_0f7a4_3 : decode cJ6_bitCount_0f7a4 3 = .ok (.iushr, 1) := by decide +kernel
theorem dJ6_bitCount_0f7a4_4 : decode cJ6_bitCount_0f7a4 4 = .ok (.ldc_w 265, 3) := by decide +kernel
theorem dJ6_bitCount_0f7a4_7 : decode cJ6_bitCount_0f7a4 7 = .ok (.iand, 1) := by decide +kernel
theorem dJ6_bitCount_0f7a4_8 : decode cJ6_bitCount_0f7a4 8 = .ok (.isub, 1) := by decide +kernel
theorem dJ6_bitCount_0f7a4_9 : decode cJ6_bitCount_0f7a4 9 = .ok (.istore_n 0, 1) := by decide +kernel
theorem dJ6_bitCount_0f7a4_10 : decode cJ6_bitCount_0f7a4 10 = .ok (.iload_n 0, 1) := by decide +kernel
theorem dJ6_bitCount_0f7a4_11 : decode cJ6_bitCount_0f7a4 11 = .ok (.ldc_w 266, 3) := by decide +kernel
theorem dJ6_bitCount_0f7a4_14 : decode cJ6_bitCount_0f7a4 14 = .ok (.iand, 1) := by decide +kernel
theorem dJ6_bitCount_0f7a4_15 : decode cJ6_bitCount_0f7a4 15 = .ok (.iload_n 0, 1) := by decide +kernel
theorem dJ6_bitCount_0f7a4_16 : decode cJ6_bitCount_0f7a4 16 = .ok (.iconst 2, 1) := by decide +kernel
theorem dJ6_bitCount_0f7a4_17 : decode cJ6_bitCount_0f7a4 17 = .ok (.iushr, 1) := by decide +kernel
theorem dJ6_bitCount_0f7a4_18 : decode cJ6_bitCount_0f7a4 18 = .ok (.ldc_w 266, 3) := by decide +kernel
theorem dJ6_bitCount_0f7a4_21 : decode cJ6_bitCount_0f7a4 21 = .ok (.iand, 1) := by decide +kernel
theorem dJ6_bitCount_0f7a4_22 : decode cJ6_bitCount_0f7a4 22 = .ok (.iadd, 1) := by decide +kernel
theorem dJ6_bitCount_0f7a4_23 : decode cJ6_bitCount_0f7a4 23 = .ok (.istore_n 0, 1) := by decide +kernel
theorem dJ6_bitCount_0f7a4_24 : decode cJ6_bitCount_0f7a4 24 = .ok (.iload_n 0, 1) := by decide +kernel
theorem dJ6_bitCount_0f7a4_25 : decode cJ6_bitCount_0f7a4 25 = .ok (.iload_n 0, 1) := by decide +kernel
theorem dJ6_bitCount_0f7a4_26 : decode cJ6_bitCount_0f7a4 26 = .ok (.iconst 4, 1) := by decide +kernel
theorem dJ6_bitCount_0f7a4_27 : decode cJ6_bitCount_0f7a4 27 = .ok (.iushr, 1) := by decide +kernel
theorem dJ6_bitCount_0f7a4_28 : decode cJ6_bitCount_0f7a4 28 = .ok (.iadd, 1) := by decide +kernel
theorem dJ6_bitCount_0f7a4_29 : decode cJ6_bitCount_0f7a4 29 = .ok (.ldc_w 267, 3) := by decide +kernel
theorem dJ6_bitCount_0f7a4_32 : decode cJ6_bitCount_0f7a4 32 = .ok (.iand, 1) := by decide +kernel
theorem dJ6_bitCount_0f7a4_33 : decode cJ6_bitCount_0f7a4 33 = .ok (.istore_n 0, 1) := by decide +kernel
theorem dJ6_bitCount_0f7a4_34 : decode cJ6_bitCount_0f7a4 34 = .ok (.iload_n 0, 1) := by decide +kernel
theorem dJ6_bitCount_0f7a4_35 : decode cJ6_bitCount_0f7a4 35 = .ok (.iload_n 0, 1) := by decide +kernel
theorem dJ6_bitCount_0f7a4_36 : decode cJ6_bitCount_0f7a4 36 = .ok (.bipush 8, 2) := by decide +kernel
theorem dJ6_bitCount_0f7a4_38 : decode cJ6_bitCount_0f7a4 38 = .ok (.iushr, 1) := by decide +kernel
theorem dJ6_bitCount_0f7a4_39 : decode cJ6_bitCount_0f7a4 39 = .ok (.iadd, 1) := by decide +kernel
theorem dJ6_bitCount_0f7a4_40 : decode cJ6_bitCount_0f7a4 40 = .ok (.istore_n 0, 1) := by decide +kernel
theorem dJ6_bitCount_0f7a4_41 : decode cJ6_bitCount_0f7a4 41 = .ok (.iload_n 0, 1) := by decide +kernel
theorem dJ6_bitCount_0f7a4_42 : decode cJ6_bitCount_0f7a4 42 = .ok (.iload_n 0, 1) := by decide +kernel
theorem dJ6_bitCount_0f7a4_43 : decode cJ6_bitCount_0f7a4 43 = .ok (.bipush 16, 2) := by decide +kernel
theorem dJ6_bitCount_0f7a4_45 : decode cJ6_bitCount_0f7a4 45 = .ok (.iushr, 1) := by decide +kernel
theorem dJ6_bitCount_0f7a4_46 : decode cJ6_bitCount_0f7a4 46 = .ok (.iadd, 1) := by decide +kernel
theorem dJ6_bitCount_0f7a4_47 : decode cJ6_bitCount_0f7a4 47 = .ok (.istore_n 0, 1) := by decide +kernel
theorem dJ6_bitCount_0f7a4_48 : decode cJ6_bitCount_0f7a4 48 = .ok (.iload_n 0, 1) := by decide +kernel
theorem dJ6_bitCount_0f7a4_49 : decode cJ6_bitCount_0f7a4 49 = .ok (.bipush 63, 2) := by decide +kernel
theorem dJ6_bitCount_0f7a4_51 : decode cJ6_bitCount_0f7a4 51 = .ok (.iand, 1) := by decide +kernel
theorem dJ6_bitCount_0f7a4_52 : decode cJ6_bitCount_0f7a4 52 = .ok (.ireturn, 1) := by decide +kernel
theorem dJ9_max_7cf53_0 : decode cJ9_max_7cf53 0 = .ok (.iload_n 0, 1) := by decide +kernel
theorem dJ9_max_7cf53_1 : decode cJ9_max_7cf53 1 = .ok (.iload_n 1, 1) := by decide +kernel
theorem dJ9_max_7cf53_2 : decode cJ9_max_7cf53 2 = .ok (.if_icmp .lt 7, 3) := by decide +kernel
theorem dJ9_max_7cf53_5 : decode cJ9_max_7cf53 5 = .ok (.iload_n 0, 1) := by decide +kernel
theorem dJ9_max_7cf53_6 : decode cJ9_max_7cf53 6 = .ok (.goto 4, 3) := by decide +kernel
theorem dJ9_max_7cf53_9 : decode cJ9_max_7cf53 9 = .ok (.iload_n 1, 1) := by decide +kernel
theorem dJ9_max_7cf53_10 : decode cJ9_max_7cf53 10 = .ok (.ireturn, 1) := by decide +kernel
theorem dJ9_min_7cf53_0 : decode cJ9_min_7cf53 0 = .ok (.iload_n 0, 1) := by decide +kernel
theorem dJ9_min_7cf53_1 : decode cJ9_min_7cf53 1 = .ok (.iload_n 1, 1) := by decide +kernel
theorem dJ9_min_7cf53_2 : decode cJ9_min_7cf53 2 = .ok (.if_icmp .gt 7, 3) := by decide +kernel
theorem dJ9_min_7cf53_5 : decode cJ9_min_7cf53 5 = .ok (.iload_n 0, 1) := by decide +kernel
theorem dJ9_min_7cf53_6 : decode cJ9_min_7cf53 6 = .ok (.goto 4, 3) := by decide +kernel
theorem dJ9_min_7cf53_9 : decode cJ9_min_7cf53 9 = .ok (.iload_n 1, 1) := by decide +kernel
theorem dJ9_min_7cf53_10 : decode cJ9_min_7cf53 10 = .ok (.ireturn, 1) := by decide +kernel
theorem dJ0_length_8abf5_0 : decode cJ0_length_8abf5 0 = .ok (.aload_n 0, 1) := by decide +kernel
theorem dJ0_length_8abf5_1 : decode cJ0_length_8abf5 1 = .ok (.getfield 9, 3) := by decide +kernel
theorem dJ0_length_8abf5_4 : decode cJ0_length_8abf5 4 = .ok (.arraylength, 1) := by decide +kernel
theorem dJ0_length_8abf5_5 : decode cJ0_length_8abf5 5 = .ok (.aload_n 0, 1) := by decide +kernel
theorem dJ0_length_8abf5_6 : decode cJ0_length_8abf5 6 = .ok (.invokevirtual 335, 3) := by decide +kernel
theorem dJ0_length_8abf5_9 : decode cJ0_length_8abf5 9 = .ok (.ishr, 1) := by decide +kernel
theorem dJ0_length_8abf5_10 : decode cJ0_length_8abf5 10 = .ok (.ireturn, 1) := by decide +kernel
theorem dJ0_charAt_5068e_0 : decode cJ0_charAt_5068e 0 = .ok (.aload_n 0, 1) := by decide +kernel
theorem dJ0_charAt_5068e_1 : decode cJ0_charAt_5068e 1 = .ok (.invokevirtual 492, 3) := by decide +kernel
theorem dJ0_charAt_5068e_4 : decode cJ0_charAt_5068e 4 = .ok (.ifCond .eq 12, 3) := by decide +kernel
theorem dJ0_charAt_5068e_7 : decode cJ0_charAt_5068e 7 = .ok (.aload_n 0, 1) := by decide +kernel
theorem dJ0_charAt_5068e_8 : decode cJ0_charAt_5068e 8 = .ok (.getfield 9, 3) := by decide +kernel
theorem dJ0_charAt_5068e_11 : decode cJ0_charAt_5068e 11 = .ok (.iload_n 1, 1) := by decide +kernel
theorem dJ0_charAt_5068e_12 : decode cJ0_charAt_5068e 12 = .ok (.invokestatic 495, 3) := by decide +kernel
theorem dJ0_charAt_5068e_15 : decode cJ0_charAt_5068e 15 = .ok (.ireturn, 1) := by decide +kernel
theorem dJ0_charAt_5068e_16 : decode cJ0_charAt_5068e 16 = .ok (.aload_n 0, 1) := by decide +kernel
theorem dJ0_charAt_5068e_17 : decode cJ0_charAt_5068e 17 = .ok (.getfield 9, 3) := by decide +kernel
theorem dJ0_charAt_5068e_20 : decode cJ0_charAt_5068e 20 = .ok (.iload_n 1, 1) := by decide +kernel
theorem dJ0_charAt_5068e_21 : decode cJ0_charAt_5068e 21 = .ok (.invokestatic 498, 3) := by decide +kernel
theorem dJ0_charAt_5068e_24 : decode cJ0_charAt_5068e 24 = .ok (.ireturn, 1) := by decide +kernel
theorem dJ0_coder_7d493_0 : decode cJ0_coder_7d493 0 = .ok (.getstatic 38, 3) := by decide +kernel
theorem dJ0_coder_7d493_3 : decode cJ0_coder_7d493 3 = .ok (.ifCond .eq 10, 3) := by decide +kernel
theorem dJ0_coder_7d493_6 : decode cJ0_coder_7d493 6 = .ok (.aload_n 0, 1) := by decide +kernel
theorem dJ0_coder_7d493_7 : decode cJ0_coder_7d493 7 = .ok (.getfield 15, 3) := by decide +kernel
theorem dJ0_coder_7d493_10 : decode cJ0_coder_7d493 10 = .ok (.goto 4, 3) := by decide +kernel
theorem dJ0_coder_7d493_13 : decode cJ0_coder_7d493 13 = .ok (.iconst 1, 1) := by decide +kernel
theorem dJ0_coder_7d493_14 : decode cJ0_coder_7d493 14 = .ok (.ireturn, 1) := by decide +kernel
theorem dJ0_isLatin1_aae02_0 : decode cJ0_isLatin1_aae02 0 = .ok (.getstatic 38, 3) := by decide +kernel
theorem dJ0_isLatin1_aae02_3 : decode cJ0_isLatin1_aae02 3 = .ok (.ifCond .eq 14, 3) := by decide +kernel
theorem dJ0_isLatin1_aae02_6 : decode cJ0_isLatin1_aae02 6 = .ok (.aload_n 0, 1) := by decide +kernel
theorem dJ0_isLatin1_aae02_7 : decode cJ0_isLatin1_aae02 7 = .ok (.getfield 15, 3) := by decide +kernel
theorem dJ0_isLatin1_aae02_10 : decode cJ0_isLatin1_aae02 10 = .ok (.ifCond .ne 7, 3) := by decide +kernel
theorem dJ0_isLatin1_aae02_13 : decode cJ0_isLatin1_aae02 13 = .ok (.iconst 1, 1) := by decide +kernel
theorem dJ0_isLatin1_aae02_14 : decode cJ0_isLatin1_aae02 14 = .ok (.goto 4, 3) := by decide +kernel
theorem dJ0_isLatin1_aae02_17 : decode cJ0_isLatin1_aae02 17 = .ok (.iconst 0, 1) := by decide +kernel
theorem dJ0_isLatin1_aae02_18 : decode cJ0_isLatin1_aae02 18 = .ok (.ireturn, 1) := by decide +kernel
theorem dJ0_checkIndex_df160_0 : decode cJ0_checkIndex_df160 0 = .ok (.iload_n 0, 1) := by decide +kernel
theorem dJ0_checkIndex_df160_1 : decode cJ0_checkIndex_df160 1 = .ok (.iload_n 1, 1) := by decide +kernel
theorem dJ0_checkIndex_df160_2 : decode cJ0_checkIndex_df160 2 = .ok (.getstatic 1053, 3) := by decide +kernel
theorem dJ0_checkIndex_df160_5 : decode cJ0_checkIndex_df160 5 = .ok (.invokestatic 1059, 3) := by decide +kernel
theorem dJ0_checkIndex_df160_8 : decode cJ0_checkIndex_df160 8 = .ok (.pop, 1) := by decide +kernel
theorem dJ0_checkIndex_df160_9 : decode cJ0_checkIndex_df160 9 = .ok (.return_, 1) := by decide +kernel
theorem dJ1_charAt_3b067_0 : decode cJ1_charAt_3b067 0 = .ok (.iload_n 1, 1) := by decide +kernel
theorem dJ1_charAt_3b067_1 : decode cJ1_charAt_3b067 1 = .ok (.aload_n 0, 1) := by decide +kernel
theorem dJ1_charAt_3b067_2 : decode cJ1_charAt_3b067 2 = .ok (.arraylength, 1) := by decide +kernel
theorem dJ1_charAt_3b067_3 : decode cJ1_charAt_3b067 3 = .ok (.invokestatic 9, 3) := by decide +kernel
theorem dJ1_charAt_3b067_6 : decode cJ1_charAt_3b067 6 = .ok (.aload_n 0, 1) := by decide +kernel
theorem dJ1_charAt_3b067_7 : decode cJ1_charAt_3b067 7 = .ok (.iload_n 1, 1) := by decide +kernel
theorem dJ1_charAt_3b067_8 : decode cJ1_charAt_3b067 8 = .ok (.baload, 1) := by decide +kernel
theorem dJ1_charAt_3b067_9 : decode cJ1_charAt_3b067 9 = .ok (.sipush 255, 3) := by decide +kernel
theorem dJ1_charAt_3b067_12 : decode cJ1_charAt_3b067 12 = .ok (.iand, 1) := by decide +kernel
theorem dJ1_charAt_3b067_13 : decode cJ1_charAt_3b067 13 = .ok (.i2c, 1) := by decide +kernel
theorem dJ1_charAt_3b067_14 : decode cJ1_charAt_3b067 14 = .ok (.ireturn, 1) := by decide +kernel
theorem dJ2_getChar_3b067_0 : decode cJ2_getChar_3b067 0 = .ok (.getstatic 44, 3) := by decide +kernel
theorem dJ2_getChar_3b067_3 : decode cJ2_getChar_3b067 3 = .ok (.ifCond .ne 25, 3) := by decide +kernel
theorem dJ2_getChar_3b067_6 : decode cJ2_getChar_3b067 6 = .ok (.iload_n 1, 1) := by decide +kernel
theorem dJ2_getChar_3b067_7 : decode cJ2_getChar_3b067 7 = .ok (.ifCond .lt 11, 3) := by decide +kernel
theorem dJ2_getChar_3b067_10 : decode cJ2_getChar_3b067 10 = .ok (.iload_n 1, 1) := by decide +kernel
theorem dJ2_getChar_3b067_11 : decode cJ2_getChar_3b067 11 = .ok (.aload_n 0, 1) := by decide +kernel
theorem dJ2_getChar_3b067_12 : decode cJ2_getChar_3b067 12 = .ok (.invokestatic 48, 3) := by decide +kernel
theorem dJ2_getChar_3b067_15 : decode cJ2_getChar_3b067 15 = .ok (.if_icmp .lt 13, 3) := by decide +kernel
theorem dJ2_getChar_3b067_18 : decode cJ2_getChar_3b067 18 = .ok (.new 52, 3) := by decide +kernel
theorem dJ2_getChar_3b067_21 : decode cJ2_getChar_3b067 21 = .ok (.dup, 1) := by decide +kernel
theorem dJ2_getChar_3b067_22 : decode cJ2_getChar_3b067 22 = .ok (.ldc 54, 2) := by decide +kernel
theorem dJ2_getChar_3b067_24 : decode cJ2_getChar_3b067 24 = .ok (.invokespecial 56, 3) := by decide +kernel
theorem dJ2_getChar_3b067_27 : decode cJ2_getChar_3b067 27 = .ok (.athrow, 1) := by decide +kernel
theorem dJ2_getChar_3b067_28 : decode cJ2_getChar_3b067 28 = .ok (.iload_n 1, 1) := by decide +kernel
theorem dJ2_getChar_3b067_29 : decode cJ2_getChar_3b067 29 = .ok (.iconst 1, 1) := by decide +kernel
theorem dJ2_getChar_3b067_30 : decode cJ2_getChar_3b067 30 = .ok (.ishl, 1) := by decide +kernel
theorem dJ2_getChar_3b067_31 : decode cJ2_getChar_3b067 31 = .ok (.istore_n 1, 1) := by decide +kernel
theorem dJ2_getChar_3b067_32 : decode cJ2_getChar_3b067 32 = .ok (.aload_n 0, 1) := by decide +kernel
theorem dJ2_getChar_3b067_33 : decode cJ2_getChar_3b067 33 = .ok (.iload_n 1, 1) := by decide +kernel
theorem dJ2_getChar_3b067_34 : decode cJ2_getChar_3b067 34 = .ok (.iinc 1 1, 3) := by decide +kernel
theorem dJ2_getChar_3b067_37 : decode cJ2_getChar_3b067 37 = .ok (.baload, 1) := by decide +kernel
theorem dJ2_getChar_3b067_38 : decode cJ2_getChar_3b067 38 = .ok (.sipush 255, 3) := by decide +kernel
theorem dJ2_getChar_3b067_41 : decode cJ2_getChar_3b067 41 = .ok (.iand, 1) := by decide +kernel
theorem dJ2_getChar_3b067_42 : decode cJ2_getChar_3b067 42 = .ok (.getstatic 59, 3) := by decide +kernel
theorem dJ2_getChar_3b067_45 : decode cJ2_getChar_3b067 45 = .ok (.ishl, 1) := by decide +kernel
theorem dJ2_getChar_3b067_46 : decode cJ2_getChar_3b067 46 = .ok (.aload_n 0, 1) := by decide +kernel
theorem dJ2_getChar_3b067_47 : decode cJ2_getChar_3b067 47 = .ok (.iload_n 1, 1) := by decide +kernel
theorem dJ2_getChar_3b067_48 : decode cJ2_getChar_3b067 48 = .ok (.baload, 1) := by decide +kernel
theorem dJ2_getChar_3b067_49 : decode cJ2_getChar_3b067 49 = .ok (.sipush 255, 3) := by decide +kernel
theorem dJ2_getChar_3b067_52 : decode cJ2_getChar_3b067 52 = .ok (.iand, 1) := by decide +kernel
theorem dJ2_getChar_3b067_53 : decode cJ2_getChar_3b067 53 = .ok (.getstatic 63, 3) := by decide +kernel
theorem dJ2_getChar_3b067_56 : decode cJ2_getChar_3b067 56 = .ok (.ishl, 1) := by decide +kernel
theorem dJ2_getChar_3b067_57 : decode cJ2_getChar_3b067 57 = .ok (.ior, 1) := by decide +kernel
theorem dJ2_getChar_3b067_58 : decode cJ2_getChar_3b067 58 = .ok (.i2c, 1) := by decide +kernel
theorem dJ2_getChar_3b067_59 : decode cJ2_getChar_3b067 59 = .ok (.ireturn, 1) := by decide +kernel
theorem dJ2_length_9d52b_0 : decode cJ2_length_9d52b 0 = .ok (.aload_n 0, 1) := by decide +kernel
theorem dJ2_length_9d52b_1 : decode cJ2_length_9d52b 1 = .ok (.arraylength, 1) := by decide +kernel
theorem dJ2_length_9d52b_2 : decode cJ2_length_9d52b 2 = .ok (.iconst 1, 1) := by decide +kernel
theorem dJ2_length_9d52b_3 : decode cJ2_length_9d52b 3 = .ok (.ishr, 1) := by decide +kernel
theorem dJ2_length_9d52b_4 : decode cJ2_length_9d52b 4 = .ok (.ireturn, 1) := by decide +kernel
theorem dJ2_charAt_3b067_0 : decode cJ2_charAt_3b067 0 = .ok (.iload_n 1, 1) := by decide +kernel
theorem dJ2_charAt_3b067_1 : decode cJ2_charAt_3b067 1 = .ok (.aload_n 0, 1) := by decide +kernel
theorem dJ2_charAt_3b067_2 : decode cJ2_charAt_3b067 2 = .ok (.invokestatic 67, 3) := by decide +kernel
theorem dJ2_charAt_3b067_5 : decode cJ2_charAt_3b067 5 = .ok (.aload_n 0, 1) := by decide +kernel
theorem dJ2_charAt_3b067_6 : decode cJ2_charAt_3b067 6 = .ok (.iload_n 1, 1) := by decide +kernel
theorem dJ2_charAt_3b067_7 : decode cJ2_charAt_3b067 7 = .ok (.invokestatic 71, 3) := by decide +kernel
theorem dJ2_charAt_3b067_10 : decode cJ2_charAt_3b067 10 = .ok (.ireturn, 1) := by decide +kernel
theorem dJ2_checkIndex_2214a_0 : decode cJ2_checkIndex_2214a 0 = .ok (.iload_n 0, 1) := by decide +kernel
theorem dJ2_checkIndex_2214a_1 : decode cJ2_checkIndex_2214a 1 = .ok (.aload_n 1, 1) := by decide +kernel
theorem dJ2_checkIndex_2214a_2 : decode cJ2_checkIndex_2214a 2 = .ok (.invokestatic 48, 3) := by decide +kernel
theorem dJ2_checkIndex_2214a_5 : decode cJ2_checkIndex_2214a 5 = .ok (.invokestatic 414, 3) := by decide +kernel
theorem dJ2_checkIndex_2214a_8 : decode cJ2_checkIndex_2214a 8 = .ok (.return_, 1) := by decide +kernel
theorem dJ7_fill_53178_0 : decode cJ7_fill_53178 0 = .ok (.iconst 0, 1) := by decide +kernel
theorem dJ7_fill_53178_1 : decode cJ7_fill_53178 1 = .ok (.istore_n 2, 1) := by decide +kernel
theorem dJ7_fill_53178_2 : decode cJ7_fill_53178 2 = .ok (.aload_n 0, 1) := by decide +kernel
theorem dJ7_fill_53178_3 : decode cJ7_fill_53178 3 = .ok (.arraylength, 1) := by decide +kernel
theorem dJ7_fill_53178_4 : decode cJ7_fill_53178 4 = .ok (.istore_n 3, 1) := by decide +kernel
theorem dJ7_fill_53178_5 : decode cJ7_fill_53178 5 = .ok (.iload_n 2, 1) := by decide +kernel
theorem dJ7_fill_53178_6 : decode cJ7_fill_53178 6 = .ok (.iload_n 3, 1) := by decide +kernel
theorem dJ7_fill_53178_7 : decode cJ7_fill_53178 7 = .ok (.if_icmp .ge 13, 3) := by decide +kernel
theorem dJ7_fill_53178_10 : decode cJ7_fill_53178 10 = .ok (.aload_n 0, 1) := by decide +kernel
theorem dJ7_fill_53178_11 : decode cJ7_fill_53178 11 = .ok (.iload_n 2, 1) := by decide +kernel
theorem dJ7_fill_53178_12 : decode cJ7_fill_53178 12 = .ok (.iload_n 1, 1) := by decide +kernel
theorem dJ7_fill_53178_13 : decode cJ7_fill_53178 13 = .ok (.iastore, 1) := by decide +kernel
theorem dJ7_fill_53178_14 : decode cJ7_fill_53178 14 = .ok (.iinc 2 1, 3) := by decide +kernel
theorem dJ7_fill_53178_17 : decode cJ7_fill_53178 17 = .ok (.goto (-12), 3) := by decide +kernel
theorem dJ7_fill_53178_20 : decode cJ7_fill_53178 20 = .ok (.return_, 1) := by decide +kernel
theorem dJ7_copyOf_59c91_0 : decode cJ7_copyOf_59c91 0 = .ok (.iload_n 1, 1) := by decide +kernel
theorem dJ7_copyOf_59c91_1 : decode cJ7_copyOf_59c91 1 = .ok (.aload_n 0, 1) := by decide +kernel
theorem dJ7_copyOf_59c91_2 : decode cJ7_copyOf_59c91 2 = .ok (.arraylength, 1) := by decide +kernel
theorem dJ7_copyOf_59c91_3 : decode cJ7_copyOf_59c91 3 = .ok (.if_icmp .ne 11, 3) := by decide +kernel
theorem dJ7_copyOf_59c91_6 : decode cJ7_copyOf_59c91 6 = .ok (.aload_n 0, 1) := by decide +kernel
theorem dJ7_copyOf_59c91_7 : decode cJ7_copyOf_59c91 7 = .ok (.invokevirtual 316, 3) := by decide +kernel
theorem dJ7_copyOf_59c91_10 : decode cJ7_copyOf_59c91 10 = .ok (.checkcast 317, 3) := by decide +kernel
theorem dJ7_copyOf_59c91_13 : decode cJ7_copyOf_59c91 13 = .ok (.areturn, 1) := by decide +kernel
theorem dJ7_copyOf_59c91_14 : decode cJ7_copyOf_59c91 14 = .ok (.iload_n 1, 1) := by decide +kernel
theorem dJ7_copyOf_59c91_15 : decode cJ7_copyOf_59c91 15 = .ok (.newarray .int, 2) := by decide +kernel
theorem dJ7_copyOf_59c91_17 : decode cJ7_copyOf_59c91 17 = .ok (.astore_n 2, 1) := by decide +kernel
theorem dJ7_copyOf_59c91_18 : decode cJ7_copyOf_59c91 18 = .ok (.aload_n 0, 1) := by decide +kernel
theorem dJ7_copyOf_59c91_19 : decode cJ7_copyOf_59c91 19 = .ok (.iconst 0, 1) := by decide +kernel
theorem dJ7_copyOf_59c91_20 : decode cJ7_copyOf_59c91 20 = .ok (.aload_n 2, 1) := by decide +kernel
theorem dJ7_copyOf_59c91_21 : decode cJ7_copyOf_59c91 21 = .ok (.iconst 0, 1) := by decide +kernel
theorem dJ7_copyOf_59c91_22 : decode cJ7_copyOf_59c91 22 = .ok (.aload_n 0, 1) := by decide +kernel
theorem dJ7_copyOf_59c91_23 : decode cJ7_copyOf_59c91 23 = .ok (.arraylength, 1) := by decide +kernel
theorem dJ7_copyOf_59c91_24 : decode cJ7_copyOf_59c91 24 = .ok (.iload_n 1, 1) := by decide +kernel
theorem dJ7_copyOf_59c91_25 : decode cJ7_copyOf_59c91 25 = .ok (.invokestatic 304, 3) := by decide +kernel
theorem dJ7_copyOf_59c91_28 : decode cJ7_copyOf_59c91 28 = .ok (.invokestatic 150, 3) := by decide +kernel
theorem dJ7_copyOf_59c91_31 : decode cJ7_copyOf_59c91 31 = .ok (.aload_n 2, 1) := by decide +kernel
theorem dJ7_copyOf_59c91_32 : decode cJ7_copyOf_59c91 32 = .ok (.areturn, 1) := by decide +kernel
theorem dJ3_checkIndex_8e157_0 : decode cJ3_checkIndex_8e157 0 = .ok (.iload_n 0, 1) := by decide +kernel
theorem dJ3_checkIndex_8e157_1 : decode cJ3_checkIndex_8e157 1 = .ok (.ifCond .lt 8, 3) := by decide +kernel
theorem dJ3_checkIndex_8e157_4 : decode cJ3_checkIndex_8e157 4 = .ok (.iload_n 0, 1) := by decide +kernel
theorem dJ3_checkIndex_8e157_5 : decode cJ3_checkIndex_8e157 5 = .ok (.iload_n 1, 1) := by decide +kernel
theorem dJ3_checkIndex_8e157_6 : decode cJ3_checkIndex_8e157 6 = .ok (.if_icmp .lt 10, 3) := by decide +kernel
theorem dJ3_checkIndex_8e157_9 : decode cJ3_checkIndex_8e157 9 = .ok (.aload_n 2, 1) := by decide +kernel
theorem dJ3_checkIndex_8e157_10 : decode cJ3_checkIndex_8e157 10 = .ok (.iload_n 0, 1) := by decide +kernel
theorem dJ3_checkIndex_8e157_11 : decode cJ3_checkIndex_8e157 11 = .ok (.iload_n 1, 1) := by decide +kernel
theorem dJ3_checkIndex_8e157_12 : decode cJ3_checkIndex_8e157 12 = .ok (.invokestatic 95, 3) := by decide +kernel
theorem dJ3_checkIndex_8e157_15 : decode cJ3_checkIndex_8e157 15 = .ok (.athrow, 1) := by decide +kernel
theorem dJ3_checkIndex_8e157_16 : decode cJ3_checkIndex_8e157 16 = .ok (.iload_n 0, 1) := by decide +kernel
theorem dJ3_checkIndex_8e157_17 : decode cJ3_checkIndex_8e157 17 = .ok (.ireturn, 1) := by decide +kernel
