theorem dX4_getGolomb_5 : decode cX4_getGolomb 5 = .ok (.iload_n 1, 1) := by decide +kernel
theorem dX4_getGolomb_6 : decode cX4_getGolomb 6 = .ok (.iconst 4, 1) := by decide +kernel
theorem dX4_getGolomb_7 : decode cX4_getGolomb 7 = .ok (.if_icmp .le 7, 3) := by decide +kernel
theorem dX4_getGolomb_10 : decode cX4_getGolomb 10 = .ok (.iconst 1, 1) := by decide +kernel
theorem dX4_getGolomb_11 : decode cX4_getGolomb 11 = .ok (.goto 15, 3) := by decide +kernel
theorem dX4_getGolomb_14 : decode cX4_getGolomb 14 = .ok (.aload_n 0, 1) := by decide +kernel
theorem dX4_getGolomb_15 : decode cX4_getGolomb 15 = .ok (.getfield 117, 3) := by decide +kernel
theorem dX4_getGolomb_18 : decode cX4_getGolomb 18 = .ok (.ifCond .ne 7, 3) := by decide +kernel
theorem dX4_getGolomb_21 : decode cX4_getGolomb 21 = .ok (.iconst 2, 1) := by decide +kernel
theorem dX4_getGolomb_22 : decode cX4_getGolomb 22 = .ok (.goto 4, 3) := by decide +kernel
theorem dX4_getGolomb_25 : decode cX4_getGolomb 25 = .ok (.iconst 0, 1) := by decide +kernel
theorem dX4_getGolomb_26 : decode cX4_getGolomb 26 = .ok (.putfield 35, 3) := by decide +kernel
theorem dX4_getGolomb_29 : decode cX4_getGolomb 29 = .ok (.aload_n 0, 1) := by decide +kernel
theorem dX4_getGolomb_30 : decode cX4_getGolomb 30 = .ok (.getfield 35, 3) := by decide +kernel
theorem dX4_getGolomb_33 : decode cX4_getGolomb 33 = .ok (.ifCond .le 5, 3) := by decide +kernel
theorem dX4_getGolomb_36 : decode cX4_getGolomb 36 = .ok (.iconst 0, 1) := by decide +kernel
theorem dX4_getGolomb_37 : decode cX4_getGolomb 37 = .ok (.ireturn, 1) := by decide +kernel
theorem dX4_getGolomb_38 : decode cX4_getGolomb 38 = .ok (.iload_n 1, 1) := by decide +kernel
theorem dX4_getGolomb_39 : decode cX4_getGolomb 39 = .ok (.istore_n 3, 1) := by decide +kernel
theorem dX4_getGolomb_40 : decode cX4_getGolomb 40 = .ok (.aload_n 0, 1) := by decide +kernel
theorem dX4_getGolomb_41 : decode cX4_getGolomb 41 = .ok (.iconst 0, 1) := by decide +kernel
theorem dX4_getGolomb_42 : decode cX4_getGolomb 42 = .ok (.putfield 129, 3) := by decide +kernel
theorem dX4_getGolomb_45 : decode cX4_getGolomb 45 = .ok (.aload_n 0, 1) := by decide +kernel
theorem dX4_getGolomb_46 : decode cX4_getGolomb 46 = .ok (.getfield 129, 3) := by decide +kernel
theorem dX4_getGolomb_49 : decode cX4_getGolomb 49 = .ok (.ifCond .ne 38, 3) := by decide +kernel
theorem dX4_getGolomb_52 : decode cX4_getGolomb 52 = .ok (.aload_n 0, 1) := by decide +kernel
theorem dX4_getGolomb_53 : decode cX4_getGolomb 53 = .ok (.invokevirtual 126, 3) := by decide +kernel
theorem dX4_getGolomb_56 : decode cX4_getGolomb 56 = .ok (.iconst 1, 1) := by decide +kernel
theorem dX4_getGolomb_57 : decode cX4_getGolomb 57 = .ok (.if_icmp .ne 30, 3) := by decide +kernel
theorem dX4_getGolomb_60 : decode cX4_getGolomb 60 = .ok (.iinc 3 1, 3) := by decide +kernel
theorem dX4_getGolomb_63 : decode cX4_getGolomb 63 = .ok (.aload_n 0, 1) := by decide +kernel
theorem dX4_getGolomb_64 : decode cX4_getGolomb 64 = .ok (.iconst 1, 1) := by decide +kernel
theorem dX4_getGolomb_65 : decode cX4_getGolomb 65 = .ok (.iload_n 3, 1) := by decide +kernel
theorem dX4_getGolomb_66 : decode cX4_getGolomb 66 = .ok (.ishl, 1) := by decide +kernel
theorem dX4_getGolomb_67 : decode cX4_getGolomb 67 = .ok (.iconst 1, 1) := by decide +kernel
theorem dX4_getGolomb_68 : decode cX4_getGolomb 68 = .ok (.iload_n 1, 1) := by decide +kernel
theorem dX4_getGolomb_69 : decode cX4_getGolomb 69 = .ok (.ishl, 1) := by decide +kernel
theorem dX4_getGolomb_70 : decode cX4_getGolomb 70 = .ok (.isub, 1) := by decide +kernel
theorem dX4_getGolomb_71 : decode cX4_getGolomb 71 = .ok (.ldc 96, 2) := by decide +kernel
theorem dX4_getGolomb_73 : decode cX4_getGolomb 73 = .ok (.if_icmp .le 7, 3) := by decide +kernel
theorem dX4_getGolomb_76 : decode cX4_getGolomb 76 = .ok (.iconst 1, 1) := by decide +kernel
theorem dX4_getGolomb_77 : decode cX4_getGolomb 77 = .ok (.goto 4, 3) := by decide +kernel
theorem dX4_getGolomb_80 : decode cX4_getGolomb 80 = .ok (.iconst 0, 1) := by decide +kernel
theorem dX4_getGolomb_81 : decode cX4_getGolomb 81 = .ok (.putfield 129, 3) := by decide +kernel
theorem dX4_getGolomb_84 : decode cX4_getGolomb 84 = .ok (.goto (-39), 3) := by decide +kernel
theorem dX4_getGolomb_87 : decode cX4_getGolomb 87 = .ok (.iconst 1, 1) := by decide +kernel
theorem dX4_getGolomb_88 : decode cX4_getGolomb 88 = .ok (.istore 4, 2) := by decide +kernel
theorem dX4_getGolomb_90 : decode cX4_getGolomb 90 = .ok (.iconst 0, 1) := by decide +kernel
theorem dX4_getGolomb_91 : decode cX4_getGolomb 91 = .ok (.istore 5, 2) := by decide +kernel
theorem dX4_getGolomb_93 : decode cX4_getGolomb 93 = .ok (.iload 5, 2) := by decide +kernel
theorem dX4_getGolomb_95 : decode cX4_getGolomb 95 = .ok (.iload_n 3, 1) := by decide +kernel
theorem dX4_getGolomb_96 : decode cX4_getGolomb 96 = .ok (.if_icmp .ge 27, 3) := by decide +kernel
theorem dX4_getGolomb_99 : decode cX4_getGolomb 99 = .ok (.aload_n 0, 1) := by decide +kernel
theorem dX4_getGolomb_100 : decode cX4_getGolomb 100 = .ok (.getfield 129, 3) := by decide +kernel
theorem dX4_getGolomb_103 : decode cX4_getGolomb 103 = .ok (.ifCond .ne 20, 3) := by decide +kernel
theorem dX4_getGolomb_106 : decode cX4_getGolomb 106 = .ok (.iconst 2, 1) := by decide +kernel
theorem dX4_getGolomb_107 : decode cX4_getGolomb 107 = .ok (.iload 4, 2) := by decide +kernel
theorem dX4_getGolomb_109 : decode cX4_getGolomb 109 = .ok (.imul, 1) := by decide +kernel
theorem dX4_getGolomb_110 : decode cX4_getGolomb 110 = .ok (.aload_n 0, 1) := by decide +kernel
theorem dX4_getGolomb_111 : decode cX4_getGolomb 111 = .ok (.invokevirtual 126, 3) := by decide +kernel
theorem dX4_getGolomb_114 : decode cX4_getGolomb 114 = .ok (.iadd, 1) := by decide +kernel
theorem dX4_getGolomb_115 : decode cX4_getGolomb 115 = .ok (.istore 4, 2) := by decide +kernel
theorem dX4_getGolomb_117 : decode cX4_getGolomb 117 = .ok (.iinc 5 1, 3) := by decide +kernel
theorem dX4_getGolomb_120 : decode cX4_getGolomb 120 = .ok (.goto (-27), 3) := by decide +kernel
theorem dX4_getGolomb_123 : decode cX4_getGolomb 123 = .ok (.iload 4, 2) := by decide +kernel
theorem dX4_getGolomb_125 : decode cX4_getGolomb 125 = .ok (.iconst 1, 1) := by decide +kernel
theorem dX4_getGolomb_126 : decode cX4_getGolomb 126 = .ok (.iload_n 1, 1) := by decide +kernel
theorem dX4_getGolomb_127 : decode cX4_getGolomb 127 = .ok (.ishl, 1) := by decide +kernel
theorem dX4_getGolomb_128 : decode cX4_getGolomb 128 = .ok (.isub, 1) := by decide +kernel
theorem dX4_getGolomb_129 : decode cX4_getGolomb 129 = .ok (.istore 4, 2) := by decide +kernel
theorem dX4_getGolomb_131 : decode cX4_getGolomb 131 = .ok (.aload_n 0, 1) := by decide +kernel
theorem dX4_getGolomb_132 : decode cX4_getGolomb 132 = .ok (.getfield 129, 3) := by decide +kernel
theorem dX4_getGolomb_135 : decode cX4_getGolomb 135 = .ok (.ifCond .ne 10, 3) := by decide +kernel
theorem dX4_getGolomb_138 : decode cX4_getGolomb 138 = .ok (.iload 4, 2) := by decide +kernel
theorem dX4_getGolomb_140 : decode cX4_getGolomb 140 = .ok (.ldc 96, 2) := by decide +kernel
theorem dX4_getGolomb_142 : decode cX4_getGolomb 142 = .ok (.if_icmp .le 11, 3) := by decide +kernel
theorem dX4_getGolomb_145 : decode cX4_getGolomb 145 = .ok (.aload_n 0, 1) := by decide +kernel
theorem dX4_getGolomb_146 : decode cX4_getGolomb 146 = .ok (.iconst 0, 1) := by decide +kernel
theorem dX4_getGolomb_147 : decode cX4_getGolomb 147 = .ok (.putfield 117, 3) := by decide +kernel
theorem dX4_getGolomb_150 : decode cX4_getGolomb 150 = .ok (.ldc 132, 2) := by decide +kernel
theorem dX4_getGolomb_152 : decode cX4_getGolomb 152 = .ok (.ireturn, 1) := by decide +kernel
theorem dX4_getGolomb_153 : decode cX4_getGolomb 153 = .ok (.iload_n 2, 1) := by decide +kernel
theorem dX4_getGolomb_154 : decode cX4_getGolomb 154 = .ok (.ifCond .ne 8, 3) := by decide +kernel
theorem dX4_getGolomb_157 : decode cX4_getGolomb 157 = .ok (.iload 4, 2) := by decide +kernel
theorem dX4_getGolomb_159 : decode cX4_getGolomb 159 = .ok (.goto 26, 3) := by decide +kernel
theorem dX4_getGolomb_162 : decode cX4_getGolomb 162 = .ok (.iload 4, 2) := by decide +kernel
theorem dX4_getGolomb_164 : decode cX4_getGolomb 164 = .ok (.iconst 2, 1) := by decide +kernel
theorem dX4_getGolomb_165 : decode cX4_getGolomb 165 = .ok (.irem, 1) := by decide +kernel
theorem dX4_getGolomb_166 : decode cX4_getGolomb 166 = .ok (.iconst 1, 1) := by decide +kernel
theorem dX4_getGolomb_167 : decode cX4_getGolomb 167 = .ok (.if_icmp .ne 12, 3) := by decide +kernel
theorem dX4_getGolomb_170 : decode cX4_getGolomb 170 = .ok (.iload 4, 2) := by decide +kernel
theorem dX4_getGolomb_172 : decode cX4_getGolomb 172 = .ok (.iconst 1, 1) := by decide +kernel
theorem dX4_getGolomb_173 : decode cX4_getGolomb 173 = .ok (.iadd, 1) := by decide +kernel
theorem dX4_getGolomb_174 : decode cX4_getGolomb 174 = .ok (.iconst 2, 1) := by decide +kernel
theorem dX4_getGolomb_175 : decode cX4_getGolomb 175 = .ok (.idiv, 1) := by decide +kernel
theorem dX4_getGolomb_176 : decode cX4_getGolomb 176 = .ok (.goto 9, 3) := by decide +kernel
theorem dX4_getGolomb_179 : decode cX4_getGolomb 179 = .ok (.iconst 0, 1) := by decide +kernel
theorem dX4_getGolomb_180 : decode cX4_getGolomb 180 = .ok (.iload 4, 2) := by decide +kernel
theorem dX4_getGolomb_182 : decode cX4_getGolomb 182 = .ok (.iconst 2, 1) := by decide +kernel
theorem dX4_getGolomb_183 : decode cX4_getGolomb 183 = .ok (.idiv, 1) := by decide +kernel
theorem dX4_getGolomb_184 : decode cX4_getGolomb 184 = .ok (.isub, 1) := by decide +kernel
theorem dX4_getGolomb_185 : decode cX4_getGolomb 185 = .ok (.ireturn, 1) := by decide +kernel
set_option maxRecDepth 20000 in
theorem ggX4_getUnary_X4_read : GoodIn wsX4_getUnary wsX4_read := goodIn_r _ [7, 8, 9, 10, 11, 12, 13, 14, 15, 6, 16, 17, 18, 19, 20, 21, 22, 23, 24, 25, 26, 27, 28, 29, 30, 31, 32, 33, 34, 35, 36, 37, 38, 39, 40, 41, 42, 43, 44, 45, 46, 47, 48, 49] (by decide +kernel) (by decide +kernel)
set_option maxRecDepth 20000 in
theorem gX4_getUnary_X4_read : GoodIn wsX4_getUnary (wsV RX4 123 RX4 yX4_read wsX4_read) := goodIn_app (goodIn_of _ (by decide +kernel)) ggX4_getUnary_X4_read
theorem dX4_getUnary_0 : decode cX4_getUnary 0 = .ok (.aload_n 0, 1) := by decide +kernel
theorem dX4_getUnary_1 : decode cX4_getUnary 1 = .ok (.iload_n 1, 1) := by decide +kernel
theorem dX4_getUnary_2 : decode cX4_getUnary 2 = .ok (.ifCond .lt 9, 3) := by decide +kernel
theorem dX4_getUnary_5 : decode cX4_getUnary 5 = .ok (.iload_n 1, 1) := by decide +kernel
theorem dX4_getUnary_6 : decode cX4_getUnary 6 = .ok (.bipush 28, 2) := by decide +kernel
theorem dX4_getUnary_8 : decode cX4_getUnary 8 = .ok (.if_icmp .le 7, 3) := by decide +kernel
theorem dX4_getUnary_11 : decode cX4_getUnary 11 = .ok (.iconst 1, 1) := by decide +kernel
theorem dX4_getUnary_12 : decode cX4_getUnary 12 = .ok (.goto 30, 3) := by decide +kernel
theorem dX4_getUnary_15 : decode cX4_getUnary 15 = .ok (.iload_n 2, 1) := by decide +kernel
theorem dX4_getUnary_16 : decode cX4_getUnary 16 = .ok (.iconst 1, 1) := by decide +kernel
theorem dX4_getUnary_17 : decode cX4_getUnary 17 = .ok (.if_icmp .lt 9, 3) := by decide +kernel
theorem dX4_getUnary_20 : decode cX4_getUnary 20 = .ok (.iload_n 2, 1) := by decide +kernel
theorem dX4_getUnary_21 : decode cX4_getUnary 21 = .ok (.bipush 15, 2) := by decide +kernel
theorem dX4_getUnary_23 : decode cX4_getUnary 23 = .ok (.if_icmp .le 7, 3) := by decide +kernel
theorem dX4_getUnary_26 : decode cX4_getUnary 26 = .ok (.iconst 2, 1) := by decide +kernel
theorem dX4_getUnary_27 : decode cX4_getUnary 27 = .ok (.goto 15, 3) := by decide +kernel
theorem dX4_getUnary_30 : decode cX4_getUnary 30 = .ok (.aload_n 0, 1) := by decide +kernel
theorem dX4_getUnary_31 : decode cX4_getUnary 31 = .ok (.getfield 117, 3) := by decide +kernel
theorem dX4_getUnary_34 : decode cX4_getUnary 34 = .ok (.ifCond .ne 7, 3) := by decide +kernel
theorem dX4_getUnary_37 : decode cX4_getUnary 37 = .ok (.iconst 3, 1) := by decide +kernel
theorem dX4_getUnary_38 : decode cX4_getUnary 38 = .ok (.goto 4, 3) := by decide +kernel
theorem dX4_getUnary_41 : decode cX4_getUnary 41 = .ok (.iconst 0, 1) := by decide +kernel
theorem dX4_getUnary_42 : decode cX4_getUnary 42 = .ok (.putfield 35, 3) := by decide +kernel
theorem dX4_getUnary_45 : decode cX4_getUnary 45 = .ok (.aload_n 0, 1) := by decide +kernel
theorem dX4_getUnary_46 : decode cX4_getUnary 46 = .ok (.getfield 35, 3) := by decide +kernel
theorem dX4_getUnary_49 : decode cX4_getUnary 49 = .ok (.ifCond .le 5, 3) := by decide +kernel
theorem dX4_getUnary_52 : decode cX4_getUnary 52 = .ok (.iconst 0, 1) := by decide +kernel
theorem dX4_getUnary_53 : decode cX4_getUnary 53 = .ok (.ireturn, 1) := by decide +kernel
theorem dX4_getUnary_54 : decode cX4_getUnary 54 = .ok (.iconst 0, 1) := by decide +kernel
theorem dX4_getUnary_55 : decode cX4_getUnary 55 = .ok (.istore_n 3, 1) := by decide +kernel
theorem dX4_getUnary_56 : decode cX4_getUnary 56 = .ok (.iload_n 3, 1) := by decide +kernel
theorem dX4_getUnary_57 : decode cX4_getUnary 57 = .ok (.iload_n 2, 1) := by decide +kernel
theorem dX4_getUnary_58 : decode cX4_getUnary 58 = .ok (.if_icmp .ge 32, 3) := by decide +kernel
theorem dX4_getUnary_61 : decode cX4_getUnary 61 = .ok (.aload_n 0, 1) := by decide +kernel
theorem dX4_getUnary_62 : decode cX4_getUnary 62 = .ok (.iload_n 3, 1) := by decide +kernel
theorem dX4_getUnary_63 : decode cX4_getUnary 63 = .ok (.iconst 3, 1) := by decide +kernel
theorem dX4_getUnary_64 : decode cX4_getUnary 64 = .ok (.if_icmp .ge 9, 3) := by decide +kernel
theorem dX4_getUnary_67 : decode cX4_getUnary 67 = .ok (.iload_n 1, 1) := by decide +kernel
theorem dX4_getUnary_68 : decode cX4_getUnary 68 = .ok (.iload_n 3, 1) := by decide +kernel
theorem dX4_getUnary_69 : decode cX4_getUnary 69 = .ok (.iadd, 1) := by decide +kernel
theorem dX4_getUnary_70 : decode cX4_getUnary 70 = .ok (.goto 6, 3) := by decide +kernel
theorem dX4_getUnary_73 : decode cX4_getUnary 73 = .ok (.iload_n 1, 1) := by decide +kernel
theorem dX4_getUnary_74 : decode cX4_getUnary 74 = .ok (.iconst 3, 1) := by decide +kernel
theorem dX4_getUnary_75 : decode cX4_getUnary 75 = .ok (.iadd, 1) := by decide +kernel
theorem dX4_getUnary_76 : decode cX4_getUnary 76 = .ok (.invokevirtual 123, 3) := by decide +kernel
theorem dX4_getUnary_79 : decode cX4_getUnary 79 = .ok (.ifCond .ne 5, 3) := by decide +kernel
theorem dX4_getUnary_82 : decode cX4_getUnary 82 = .ok (.iload_n 3, 1) := by decide +kernel
theorem dX4_getUnary_83 : decode cX4_getUnary 83 = .ok (.ireturn, 1) := by decide +kernel
theorem dX4_getUnary_84 : decode cX4_getUnary 84 = .ok (.iinc 3 1, 3) := by decide +kernel
theorem dX4_getUnary_87 : decode cX4_getUnary 87 = .ok (.goto (-31), 3) := by decide +kernel
theorem dX4_getUnary_90 : decode cX4_getUnary 90 = .ok (.iload_n 2, 1) := by decide +kernel
theorem dX4_getUnary_91 : decode cX4_getUnary 91 = .ok (.ireturn, 1) := by decide +kernel
set_option maxRecDepth 20000 in
theorem ggX4_ended_X4_grow : GoodIn wsX4_ended wsX4_grow := goodIn_r _ [9, 3, 4, 10, 11, 12, 8, 13, 14, 15, 16, 17, 18, 19, 20, 21, 22, 23, 24, 25, 26, 27, 28, 29, 30, 31, 32, 33, 34, 35, 36, 37] (by decide +kernel) (by decide +kernel)
set_option maxRecDepth 20000 in
theorem gX4_ended_X4_grow : GoodIn wsX4_ended (wsV RX4 120 RX4 yX4_grow wsX4_grow) := goodIn_app (goodIn_of _ (by decide +kernel)) ggX4_ended_X4_grow
theorem dX4_ended_0 : decode cX4_ended 0 = .ok (.aload_n 0, 1) := by decide +kernel
theorem dX4_ended_1 : decode cX4_ended 1 = .ok (.aload_n 0, 1) := by decide +kernel
theorem dX4_ended_2 : decode cX4_ended 2 = .ok (.getfield 117, 3) := by decide +kernel
theorem dX4_ended_5 : decode cX4_ended 5 = .ok (.ifCond .eq 7, 3) := by decide +kernel
theorem dX4_ended_8 : decode cX4_ended 8 = .ok (.iconst 0, 1) := by decide +kernel
theorem dX4_ended_9 : decode cX4_ended 9 = .ok (.goto 4, 3) := by decide +kernel
theorem dX4_ended_12 : decode cX4_ended 12 = .ok (.iconst 1, 1) := by decide +kernel
theorem dX4_ended_13 : decode cX4_ended 13 = .ok (.putfield 35, 3) := by decide +kernel
theorem dX4_ended_16 : decode cX4_ended 16 = .ok (.aload_n 0, 1) := by decide +kernel
theorem dX4_ended_17 : decode cX4_ended 17 = .ok (.getfield 35, 3) := by decide +kernel
theorem dX4_ended_20 : decode cX4_ended 20 = .ok (.ifCond .le 5, 3) := by decide +kernel
theorem dX4_ended_23 : decode cX4_ended 23 = .ok (.iconst 0, 1) := by decide +kernel
theorem dX4_ended_24 : decode cX4_ended 24 = .ok (.ireturn, 1) := by decide +kernel
theorem dX4_ended_25 : decode cX4_ended 25 = .ok (.aload_n 0, 1) := by decide +kernel
theorem dX4_ended_26 : decode cX4_ended 26 = .ok (.aload_n 0, 1) := by decide +kernel
theorem dX4_ended_27 : decode cX4_ended 27 = .ok (.getfield 107, 3) := by decide +kernel
theorem dX4_ended_30 : decode cX4_ended 30 = .ok (.iconst 2, 1) := by decide +kernel
theorem dX4_ended_31 : decode cX4_ended 31 = .ok (.isub, 1) := by decide +kernel
theorem dX4_ended_32 : decode cX4_ended 32 = .ok (.putfield 107, 3) := by decide +kernel
theorem dX4_ended_35 : decode cX4_ended 35 = .ok (.aload_n 0, 1) := by decide +kernel
theorem dX4_ended_36 : decode cX4_ended 36 = .ok (.aload_n 0, 1) := by decide +kernel
theorem dX4_ended_37 : decode cX4_ended 37 = .ok (.getfield 110, 3) := by decide +kernel
theorem dX4_ended_40 : decode cX4_ended 40 = .ok (.aload_n 0, 1) := by decide +kernel
theorem dX4_ended_41 : decode cX4_ended 41 = .ok (.getfield 107, 3) := by decide +kernel
theorem dX4_ended_44 : decode cX4_ended 44 = .ok (.if_icmp .ge 7, 3) := by decide +kernel
theorem dX4_ended_47 : decode cX4_ended 47 = .ok (.iconst 1, 1) := by decide +kernel
theorem dX4_ended_48 : decode cX4_ended 48 = .ok (.goto 4, 3) := by decide +kernel
theorem dX4_ended_51 : decode cX4_ended 51 = .ok (.iconst 0, 1) := by decide +kernel
theorem dX4_ended_52 : decode cX4_ended 52 = .ok (.putfield 117, 3) := by decide +kernel
theorem dX4_ended_55 : decode cX4_ended 55 = .ok (.aload_n 0, 1) := by decide +kernel
theorem dX4_ended_56 : decode cX4_ended 56 = .ok (.getfield 117, 3) := by decide +kernel
theorem dX4_ended_59 : decode cX4_ended 59 = .ok (.ifCond .eq 7, 3) := by decide +kernel
theorem dX4_ended_62 : decode cX4_ended 62 = .ok (.aload_n 0, 1) := by decide +kernel
theorem dX4_ended_63 : decode cX4_ended 63 = .ok (.invokevirtual 120, 3) := by decide +kernel
theorem dX4_ended_66 : decode cX4_ended 66 = .ok (.aload_n 0, 1) := by decide +kernel
theorem dX4_ended_67 : decode cX4_ended 67 = .ok (.getfield 117, 3) := by decide +kernel
theorem dX4_ended_70 : decode cX4_ended 70 = .ok (.ifCond .ne 7, 3) := by decide +kernel
theorem dX4_ended_73 : decode cX4_ended 73 = .ok (.iconst 1, 1) := by decide +kernel
theorem dX4_ended_74 : decode cX4_ended 74 = .ok (.goto 4, 3) := by decide +kernel
theorem dX4_ended_77 : decode cX4_ended 77 = .ok (.iconst 0, 1) := by decide +kernel
theorem dX4_ended_78 : decode cX4_ended 78 = .ok (.ireturn, 1) := by decide +kernel
set_option maxRecDepth 20000 in
theorem ggX4_about_X4_noContext : GoodIn wsX4_about wsX4_noContext := goodIn_r _ [7] (by decide +kernel) (by decide +kernel)
set_option maxRecDepth 20000 in
theorem gX4_about_X4_noContext : GoodIn wsX4_about (va_wsS RX4 39 yX4_noContext wsX4_noContext) := goodIn_app (goodIn_of _ (by decide +kernel)) ggX4_about_X4_noContext
theorem dX4_about_0 : decode cX4_about 0 = .ok (.aload_n 0, 1) := by decide +kernel
theorem dX4_about_1 : decode cX4_about 1 = .ok (.iload_n 2, 1) := by decide +kernel
theorem dX4_about_2 : decode cX4_about 2 = .ok (.invokestatic 39, 3) := by decide +kernel
theorem dX4_about_5 : decode cX4_about 5 = .ok (.ifCond .eq 7, 3) := by decide +kernel
theorem dX4_about_8 : decode cX4_about 8 = .ok (.iconst 1, 1) := by decide +kernel
theorem dX4_about_9 : decode cX4_about 9 = .ok (.goto 4, 3) := by decide +kernel
theorem dX4_about_12 : decode cX4_about 12 = .ok (.iconst 0, 1) := by decide +kernel
theorem dX4_about_13 : decode cX4_about 13 = .ok (.putfield 35, 3) := by decide +kernel
theorem dX4_about_16 : decode cX4_about 16 = .ok (.aload_n 0, 1) := by decide +kernel
theorem dX4_about_17 : decode cX4_about 17 = .ok (.getfield 35, 3) := by decide +kernel
theorem dX4_about_20 : decode cX4_about 20 = .ok (.ifCond .le 5, 3) := by decide +kernel
theorem dX4_about_23 : decode cX4_about 23 = .ok (.iconst 0, 1) := by decide +kernel
theorem dX4_about_24 : decode cX4_about 24 = .ok (.ireturn, 1) := by decide +kernel
theorem dX4_about_25 : decode cX4_about 25 = .ok (.iload_n 1, 1) := by decide +kernel
theorem dX4_about_26 : decode cX4_about 26 = .ok (.ifCond .eq 10, 3) := by decide +kernel
theorem dX4_about_29 : decode cX4_about 29 = .ok (.bipush 64, 2) := by decide +kernel
theorem dX4_about_31 : decode cX4_about 31 = .ok (.iload_n 2, 1) := by decide +kernel
theorem dX4_about_32 : decode cX4_about 32 = .ok (.iadd, 1) := by decide +kernel
theorem dX4_about_33 : decode cX4_about 33 = .ok (.goto 7, 3) := by decide +kernel
theorem dX4_about_36 : decode cX4_about 36 = .ok (.bipush 32, 2) := by decide +kernel
theorem dX4_about_38 : decode cX4_about 38 = .ok (.iload_n 2, 1) := by decide +kernel
theorem dX4_about_39 : decode cX4_about 39 = .ok (.iadd, 1) := by decide +kernel
theorem dX4_about_40 : decode cX4_about 40 = .ok (.istore_n 3, 1) := by decide +kernel
theorem dX4_about_41 : decode cX4_about 41 = .ok (.iconst 2, 1) := by decide +kernel
theorem dX4_about_42 : decode cX4_about 42 = .ok (.aload_n 0, 1) := by decide +kernel
theorem dX4_about_43 : decode cX4_about 43 = .ok (.getfield 16, 3) := by decide +kernel
theorem dX4_about_46 : decode cX4_about 46 = .ok (.iload_n 3, 1) := by decide +kernel
theorem dX4_about_47 : decode cX4_about 47 = .ok (.iaload, 1) := by decide +kernel
theorem dX4_about_48 : decode cX4_about 48 = .ok (.imul, 1) := by decide +kernel
theorem dX4_about_49 : decode cX4_about 49 = .ok (.aload_n 0, 1) := by decide +kernel
theorem dX4_about_50 : decode cX4_about 50 = .ok (.getfield 19, 3) := by decide +kernel
theorem dX4_about_53 : decode cX4_about 53 = .ok (.iload_n 3, 1) := by decide +kernel
theorem dX4_about_54 : decode cX4_about 54 = .ok (.iaload, 1) := by decide +kernel
theorem dX4_about_55 : decode cX4_about 55 = .ok (.iadd, 1) := by decide +kernel
theorem dX4_about_56 : decode cX4_about 56 = .ok (.ireturn, 1) := by decide +kernel
theorem dX4_engine_0 : decode cX4_engine 0 = .ok (.aload_n 0, 1) := by decide +kernel
theorem dX4_engine_1 : decode cX4_engine 1 = .ok (.iload_n 1, 1) := by decide +kernel
theorem dX4_engine_2 : decode cX4_engine 2 = .ok (.ifCond .lt 9, 3) := by decide +kernel
theorem dX4_engine_5 : decode cX4_engine 5 = .ok (.iload_n 1, 1) := by decide +kernel
theorem dX4_engine_6 : decode cX4_engine 6 = .ok (.bipush 6, 2) := by decide +kernel
theorem dX4_engine_8 : decode cX4_engine 8 = .ok (.if_icmp .le 7, 3) := by decide +kernel
theorem dX4_engine_11 : decode cX4_engine 11 = .ok (.iconst 1, 1) := by decide +kernel
theorem dX4_engine_12 : decode cX4_engine 12 = .ok (.goto 4, 3) := by decide +kernel
theorem dX4_engine_15 : decode cX4_engine 15 = .ok (.iconst 0, 1) := by decide +kernel
theorem dX4_engine_16 : decode cX4_engine 16 = .ok (.putfield 35, 3) := by decide +kernel
theorem dX4_engine_19 : decode cX4_engine 19 = .ok (.aload_n 0, 1) := by decide +kernel
theorem dX4_engine_20 : decode cX4_engine 20 = .ok (.getfield 35, 3) := by decide +kernel
theorem dX4_engine_23 : decode cX4_engine 23 = .ok (.ifCond .le 5, 3) := by decide +kernel
theorem dX4_engine_26 : decode cX4_engine 26 = .ok (.iconst 0, 1) := by decide +kernel
theorem dX4_engine_27 : decode cX4_engine 27 = .ok (.ireturn, 1) := by decide +kernel
theorem dX4_engine_28 : decode cX4_engine 28 = .ok (.iload_n 1, 1) := by decide +kernel
theorem dX4_engine_29 : decode cX4_engine 29 = .ok (.ifCond .ne 10, 3) := by decide +kernel
theorem dX4_engine_32 : decode cX4_engine 32 = .ok (.aload_n 0, 1) := by decide +kernel
theorem dX4_engine_33 : decode cX4_engine 33 = .ok (.getfield 50, 3) := by decide +kernel
theorem dX4_engine_36 : decode cX4_engine 36 = .ok (.goto 67, 3) := by decide +kernel
theorem dX4_engine_39 : decode cX4_engine 39 = .ok (.iload_n 1, 1) := by decide +kernel
theorem dX4_engine_40 : decode cX4_engine 40 = .ok (.iconst 1, 1) := by decide +kernel
theorem dX4_engine_41 : decode cX4_engine 41 = .ok (.if_icmp .ne 10, 3) := by decide +kernel
theorem dX4_engine_44 : decode cX4_engine 44 = .ok (.aload_n 0, 1) := by decide +kernel
theorem dX4_engine_45 : decode cX4_engine 45 = .ok (.getfield 53, 3) := by decide +kernel
theorem dX4_engine_48 : decode cX4_engine 48 = .ok (.goto 55, 3) := by decide +kernel
theorem dX4_engine_51 : decode cX4_engine 51 = .ok (.iload_n 1, 1) := by decide +kernel
theorem dX4_engine_52 : decode cX4_engine 52 = .ok (.iconst 2, 1) := by decide +kernel
theorem dX4_engine_53 : decode cX4_engine 53 = .ok (.if_icmp .ne 10, 3) := by decide +kernel
theorem dX4_engine_56 : decode cX4_engine 56 = .ok (.aload_n 0, 1) := by decide +kernel
theorem dX4_engine_57 : decode cX4_engine 57 = .ok (.getfield 56, 3) := by decide +kernel
theorem dX4_engine_60 : decode cX4_engine 60 = .ok (.goto 43, 3) := by decide +kernel
theorem dX4_engine_63 : decode cX4_engine 63 = .ok (.iload_n 1, 1) := by decide +kernel
theorem dX4_engine_64 : decode cX4_engine 64 = .ok (.iconst 3, 1) := by decide +kernel
theorem dX4_engine_65 : decode cX4_engine 65 = .ok (.if_icmp .ne 10, 3) := by decide +kernel
theorem dX4_engine_68 : decode cX4_engine 68 = .ok (.aload_n 0, 1) := by decide +kernel
theorem dX4_engine_69 : decode cX4_engine 69 = .ok (.getfield 59, 3) := by decide +kernel
theorem dX4_engine_72 : decode cX4_engine 72 = .ok (.goto 31, 3) := by decide +kernel
theorem dX4_engine_75 : decode cX4_engine 75 = .ok (.iload_n 1, 1) := by decide +kernel
theorem dX4_engine_76 : decode cX4_engine 76 = .ok (.iconst 4, 1) := by decide +kernel
theorem dX4_engine_77 : decode cX4_engine 77 = .ok (.if_icmp .ne 10, 3) := by decide +kernel
theorem dX4_engine_80 : decode cX4_engine 80 = .ok (.aload_n 0, 1) := by decide +kernel
theorem dX4_engine_81 : decode cX4_engine 81 = .ok (.getfield 62, 3) := by decide +kernel
theorem dX4_engine_84 : decode cX4_engine 84 = .ok (.goto 19, 3) := by decide +kernel
theorem dX4_engine_87 : decode cX4_engine 87 = .ok (.iload_n 1, 1) := by decide +kernel
theorem dX4_engine_88 : decode cX4_engine 88 = .ok (.iconst 5, 1) := by decide +kernel
theorem dX4_engine_89 : decode cX4_engine 89 = .ok (.if_icmp .ne 10, 3) := by decide +kernel
theorem dX4_engine_92 : decode cX4_engine 92 = .ok (.aload_n 0, 1) := by decide +kernel
theorem dX4_engine_93 : decode cX4_engine 93 = .ok (.getfield 107, 3) := by decide +kernel
theorem dX4_engine_96 : decode cX4_engine 96 = .ok (.goto 7, 3) := by decide +kernel
theorem dX4_engine_99 : decode cX4_engine 99 = .ok (.aload_n 0, 1) := by decide +kernel
theorem dX4_engine_100 : decode cX4_engine 100 = .ok (.getfield 110, 3) := by decide +kernel
theorem dX4_engine_103 : decode cX4_engine 103 = .ok (.ireturn, 1) := by decide +kernel
theorem dJ9_min_7cf53_0 : decode cJ9_min_7cf53 0 = .ok (.iload_n 0, 1) := by decide +kernel
theorem dJ9_min_7cf53_1 : decode cJ9_min_7cf53 1 = .ok (.iload_n 1, 1) := by decide +kernel
theorem dJ9_min_7cf53_2 : decode cJ9_min_7cf53 2 = .ok (.if_icmp .gt 7, 3) := by decide +kernel
theorem dJ9_min_7cf53_5 : decode cJ9_min_7cf53 5 = .ok (.iload_n 0, 1) := by decide +kernel
theorem dJ9_min_7cf53_6 : decode cJ9_min_7cf53 6 = .ok (.goto 4, 3) := by decide +kernel
theorem dJ9_min_7cf53_9 : decode cJ9_min_7cf53 9 = .ok (.iload_n 1, 1) := by decide +kernel
theorem dJ9_min_7cf53_10 : decode cJ9_min_7cf53 10 = .ok (.ireturn, 1) := by decide +kernel
theorem dJ7_fill_53178_0 : decode cJ7_fill_53178 0 = .ok (.iconst 0, 1) := by decide +kernel
theorem dJ7_fill_53178_1 : decode cJ7_fill_53178 1 = .ok (.istore_n 2, 1) := by decide +kernel
theorem dJ7_fill_53178_2 : decode cJ7_fill_53178 2 = .ok (.aload_n 0, 1) := by decide +kernel
theorem dJ7_fill_53178_3 : decode cJ7_fill_53178 3 = .ok (.arraylength, 1) := by decide +kernel
theorem dJ7_fill_53178_4 : decode cJ7_fill_53178 4 = .ok (.istore_n 3, 1) := by decide +kernel
theorem dJ7_fill_53178_5 : decode cJ7_fill_53178 5 = .ok (.iload_n 2, 1) := by decide +kernel
theorem dJ7_fill_53178_6 : decode cJ7_fill_53178 6 = .ok (.iload_n 3, 1) := by decide +kernel
theorem dJ7_fill_53178_7 : decode cJ7_fill_53178 7 = .ok (.if_icmp .ge 13, 3) := by decide +kernel
theorem dJ7_fill_53178_10 : decode cJ7_fill_53178 10 = .ok (.aload_n 0, 1) := by decide +kernel
theorem dJ7_fill_53178_11 : decode cJ7_fill_53178 11 = .ok (.iload_n 2, 1) := by decide +kernel
theorem dJ7_fill_53178_12 : decode cJ7_fill_53178 12 = .ok (.iload_n 1, 1) := by decide +kernel
theorem dJ7_fill_53178_13 : decode cJ7_fill_53178 13 = .ok (.iastore, 1) := by decide +kernel
theorem dJ7_fill_53178_14 : decode cJ7_fill_53178 14 = .ok (.iinc 2 1, 3) := by decide +kernel
theorem dJ7_fill_53178_17 : decode cJ7_fill_53178 17 = .ok (.goto (-12), 3) := by decide +kernel
theorem dJ7_fill_53178_20 : decode cJ7_fill_53178 20 = .ok (.return_, 1) := by decide +kernel
set_option maxRecDepth 20000 in
theorem ggL_set_X3_set : GoodIn wsL_set wsX3_set := goodIn_ca (goodIn_ca (goodIn_r _ [7, 8, 9, 10, 11, 12, 13, 14, 6, 15, 16, 17, 18, 19, 20, 21, 22, 23, 24, 25] (by decide +kernel) (by decide +kernel)) (goodIn_sub (fun _ h => List.mem_cons_of_mem _ (List.mem_append_left _ (List.mem_append_right _ h))) (by decide +kernel))) (goodIn_sub (fun _ h => List.mem_cons_of_mem _ (List.mem_append_right _ h)) (by decide +kernel))
set_option maxRecDepth 20000 in
theorem gL_set_X3_set : GoodIn wsL_set (wsV RL 7 RX3 yX3_set wsX3_set) := goodIn_app (goodIn_of _ (by decide +kernel)) ggL_set_X3_set
theorem dL_set_0 : decode cL_set 0 = .ok (.aload_n 0, 1) := by decide +kernel
theorem dL_set_1 : decode cL_set 1 = .ok (.iload_n 1, 1) := by decide +kernel
theorem dL_set_2 : decode cL_set 2 = .ok (.iload_n 2, 1) := by decide +kernel
theorem dL_set_3 : decode cL_set 3 = .ok (.iload_n 3, 1) := by decide +kernel
theorem dL_set_4 : decode cL_set 4 = .ok (.invokevirtual 7, 3) := by decide +kernel
theorem dL_set_7 : decode cL_set 7 = .ok (.goto 11, 3) := by decide +kernel
theorem dL_set_10 : decode cL_set 10 = .ok (.astore 4, 2) := by decide +kernel
theorem dL_set_12 : decode cL_set 12 = .ok (.iconst 1, 1) := by decide +kernel
theorem dL_set_13 : decode cL_set 13 = .ok (.ireturn, 1) := by decide +kernel
theorem dL_set_14 : decode cL_set 14 = .ok (.astore 4, 2) := by decide +kernel
theorem dL_set_16 : decode cL_set 16 = .ok (.iconst 2, 1) := by decide +kernel
theorem dL_set_17 : decode cL_set 17 = .ok (.ireturn, 1) := by decide +kernel
theorem dL_set_18 : decode cL_set 18 = .ok (.iconst 0, 1) := by decide +kernel
theorem dL_set_19 : decode cL_set 19 = .ok (.ireturn, 1) := by decide +kernel
set_option maxRecDepth 20000 in
theorem ggL_put_X3_put : GoodIn wsL_put wsX3_put := goodIn_ca (goodIn_ca (goodIn_ca (goodIn_r _ [8, 9, 10, 11, 7, 12, 13, 14, 15, 16, 17, 18, 19, 20, 21, 22, 23, 24, 25, 26, 27, 28, 29, 30, 31, 32, 33, 34, 35, 36, 37, 38, 39, 40, 41, 42, 43, 44, 45, 46, 47, 48, 49, 50, 51, 52, 53, 54, 55, 56, 57, 58, 59, 60, 61, 62, 63, 64, 65, 66, 67, 68, 69, 70, 71, 72, 73, 74, 75, 76, 77, 78, 79, 80, 81, 82, 83, 84, 85, 86, 87, 88, 89, 90, 91, 92, 93] (by decide +kernel) (by decide +kernel)) (goodIn_sub (fun _ h => List.mem_cons_of_mem _ (List.mem_append_left _ (List.mem_append_left _ (List.mem_append_right _ h)))) (by decide +kernel))) (goodIn_sub (fun _ h => List.mem_cons_of_mem _ (List.mem_append_left _ (List.mem_append_right _ h))) (by decide +kernel))) (goodIn_sub (fun _ h => List.mem_cons_of_mem _ (List.mem_append_right _ h)) (by decide +kernel))
set_option maxRecDepth 20000 in
theorem gL_put_X3_put : GoodIn wsL_put (wsV RL 17 RX3 yX3_put wsX3_put) := goodIn_app (goodIn_of _ (by decide +kernel)) ggL_put_X3_put
theorem dL_put_0 : decode cL_put 0 = .ok (.aload_n 0, 1) := by decide +kernel
theorem dL_put_1 : decode cL_put 1 = .ok (.iload_n 1, 1) := by decide +kernel
theorem dL_put_2 : decode cL_put 2 = .ok (.iload_n 2, 1) := by decide +kernel
theorem dL_put_3 : decode cL_put 3 = .ok (.invokevirtual 17, 3) := by decide +kernel
theorem dL_put_6 : decode cL_put 6 = .ok (.goto 12, 3) := by decide +kernel
theorem dL_put_9 : decode cL_put 9 = .ok (.astore_n 3, 1) := by decide +kernel
theorem dL_put_10 : decode cL_put 10 = .ok (.iconst 1, 1) := by decide +kernel
theorem dL_put_11 : decode cL_put 11 = .ok (.ireturn, 1) := by decide +kernel
theorem dL_put_12 : decode cL_put 12 = .ok (.astore_n 3, 1) := by decide +kernel
theorem dL_put_13 : decode cL_put 13 = .ok (.iconst 2, 1) := by decide +kernel
theorem dL_put_14 : decode cL_put 14 = .ok (.ireturn, 1) := by decide +kernel
theorem dL_put_15 : decode cL_put 15 = .ok (.astore_n 3, 1) := by decide +kernel
theorem dL_put_16 : decode cL_put 16 = .ok (.iconst 3, 1) := by decide +kernel
theorem dL_put_17 : decode cL_put 17 = .ok (.ireturn, 1) := by decide +kernel
theorem dL_put_18 : decode cL_put 18 = .ok (.iconst 0, 1) := by decide +kernel
theorem dL_put_19 : decode cL_put 19 = .ok (.ireturn, 1) := by decide +kernel
set_option maxRecDepth 20000 in
theorem ggL_pass_X3_pass : GoodIn wsL_pass wsX3_pass := goodIn_ca (goodIn_ca (goodIn_r _ [7, 8, 9, 10, 6, 11, 12, 13, 14, 15, 16, 17, 18, 19, 20, 21, 22, 23, 24, 25, 26, 27, 28, 29, 30, 31, 32, 33, 34, 35, 36, 37, 38, 39, 40, 41, 42, 43, 44, 45, 46, 47, 48, 49, 50, 51, 52, 53, 54, 55, 56, 57, 58, 59, 60, 61, 62, 63, 64] (by decide +kernel) (by decide +kernel)) (goodIn_sub (fun _ h => List.mem_cons_of_mem _ (List.mem_append_left _ (List.mem_append_right _ h))) (by decide +kernel))) (goodIn_sub (fun _ h => List.mem_cons_of_mem _ (List.mem_append_right _ h)) (by decide +kernel))
set_option maxRecDepth 20000 in
theorem gL_pass_X3_pass : GoodIn wsL_pass (wsV RL 23 RX3 yX3_pass wsX3_pass) := goodIn_app (goodIn_of _ (by decide +kernel)) ggL_pass_X3_pass
theorem dL_pass_0 : decode cL_pass 0 = .ok (.aload_n 0, 1) := by decide +kernel
theorem dL_pass_1 : decode cL_pass 1 = .ok (.iload_n 1, 1) := by decide +kernel
theorem dL_pass_2 : decode cL_pass 2 = .ok (.invokevirtual 23, 3) := by decide +kernel
theorem dL_pass_5 : decode cL_pass 5 = .ok (.goto 9, 3) := by decide +kernel
theorem dL_pass_8 : decode cL_pass 8 = .ok (.astore_n 2, 1) := by decide +kernel
theorem dL_pass_9 : decode cL_pass 9 = .ok (.iconst 1, 1) := by decide +kernel
theorem dL_pass_10 : decode cL_pass 10 = .ok (.ireturn, 1) := by decide +kernel
theorem dL_pass_11 : decode cL_pass 11 = .ok (.astore_n 2, 1) := by decide +kernel
theorem dL_pass_12 : decode cL_pass 12 = .ok (.iconst 2, 1) := by decide +kernel
theorem dL_pass_13 : decode cL_pass 13 = .ok (.ireturn, 1) := by decide +kernel
theorem dL_pass_14 : decode cL_pass 14 = .ok (.iconst 0, 1) := by decide +kernel
theorem dL_pass_15 : decode cL_pass 15 = .ok (.ireturn, 1) := by decide +kernel
set_option maxRecDepth 20000 in
theorem ggL_golomb_X3_golomb : GoodIn wsL_golomb wsX3_golomb := goodIn_ca (goodIn_ca (goodIn_r _ [7, 8, 9, 10, 6, 11, 12, 13, 14, 15, 16, 17, 18, 19, 20, 21, 22, 23, 24, 25, 26, 27, 28, 29, 30, 31, 32, 33, 34, 35, 36, 37, 38, 39, 40, 41, 42, 43, 44, 45, 46, 47, 48, 49, 50, 51, 52, 53, 54, 55, 56, 57, 58, 59, 60, 61, 62, 63, 64, 65, 66, 67, 68, 69, 70, 71, 72, 73, 74, 75, 76, 77, 78, 79] (by decide +kernel) (by decide +kernel)) (goodIn_sub (fun _ h => List.mem_cons_of_mem _ (List.mem_append_left _ (List.mem_append_right _ h))) (by decide +kernel))) (goodIn_sub (fun _ h => List.mem_cons_of_mem _ (List.mem_append_right _ h)) (by decide +kernel))
set_option maxRecDepth 20000 in
theorem gL_golomb_X3_golomb : GoodIn wsL_golomb (wsV RL 27 RX3 yX3_golomb wsX3_golomb) := goodIn_app (goodIn_of _ (by decide +kernel)) ggL_golomb_X3_golomb
theorem dL_golomb_0 : decode cL_golomb 0 = .ok (.aload 4, 2) := by decide +kernel
theorem dL_golomb_2 : decode cL_golomb 2 = .ok (.iconst 0, 1) := by decide +kernel
theorem dL_golomb_3 : decode cL_golomb 3 = .ok (.aload_n 0, 1) := by decide +kernel
theorem dL_golomb_4 : decode cL_golomb 4 = .ok (.iload_n 1, 1) := by decide +kernel
theorem dL_golomb_5 : decode cL_golomb 5 = .ok (.iload_n 2, 1) := by decide +kernel
theorem dL_golomb_6 : decode cL_golomb 6 = .ok (.iload_n 3, 1) := by decide +kernel
theorem dL_golomb_7 : decode cL_golomb 7 = .ok (.invokevirtual 27, 3) := by decide +kernel
theorem dL_golomb_10 : decode cL_golomb 10 = .ok (.i2l, 1) := by decide +kernel
theorem dL_golomb_11 : decode cL_golomb 11 = .ok (.lastore, 1) := by decide +kernel
theorem dL_golomb_12 : decode cL_golomb 12 = .ok (.goto 11, 3) := by decide +kernel
theorem dL_golomb_15 : decode cL_golomb 15 = .ok (.astore 5, 2) := by decide +kernel
theorem dL_golomb_17 : decode cL_golomb 17 = .ok (.iconst 1, 1) := by decide +kernel
theorem dL_golomb_18 : decode cL_golomb 18 = .ok (.ireturn, 1) := by decide +kernel
theorem dL_golomb_19 : decode cL_golomb 19 = .ok (.astore 5, 2) := by decide +kernel
theorem dL_golomb_21 : decode cL_golomb 21 = .ok (.iconst 2, 1) := by decide +kernel
theorem dL_golomb_22 : decode cL_golomb 22 = .ok (.ireturn, 1) := by decide +kernel
theorem dL_golomb_23 : decode cL_golomb 23 = .ok (.iconst 0, 1) := by decide +kernel
theorem dL_golomb_24 : decode cL_golomb 24 = .ok (.ireturn, 1) := by decide +kernel
set_option maxRecDepth 20000 in
theorem ggL_unary_X3_unary : GoodIn wsL_unary wsX3_unary := goodIn_ca (goodIn_ca (goodIn_ca (goodIn_r _ [8, 9, 10, 11, 12, 13, 7, 14, 15, 16, 17, 18, 19, 20, 21, 22, 23, 24, 25, 26, 27, 28, 29, 30, 31, 32, 33, 34, 35, 36, 37, 38, 39, 40, 41, 42, 43, 44, 45, 46, 47, 48, 49, 50, 51, 52, 53, 54, 55, 56, 57, 58, 59, 60, 61, 62, 63, 64, 65, 66, 67, 68, 69, 70, 71, 72, 73, 74, 75, 76, 77, 78, 79, 80, 81, 82, 83, 84, 85, 86, 87, 88, 89, 90, 91, 92, 93, 94, 95, 96, 97, 98, 99, 100] (by decide +kernel) (by decide +kernel)) (goodIn_sub (fun _ h => List.mem_cons_of_mem _ (List.mem_append_left _ (List.mem_append_left _ (List.mem_append_right _ h)))) (by decide +kernel))) (goodIn_sub (fun _ h => List.mem_cons_of_mem _ (List.mem_append_left _ (List.mem_append_right _ h))) (by decide +kernel))) (goodIn_sub (fun _ h => List.mem_cons_of_mem _ (List.mem_append_right _ h)) (by decide +kernel))
set_option maxRecDepth 20000 in
theorem gL_unary_X3_unary : GoodIn wsL_unary (wsV RL 31 RX3 yX3_unary wsX3_unary) := goodIn_app (goodIn_of _ (by decide +kernel)) ggL_unary_X3_unary
theorem dL_unary_0 : decode cL_unary 0 = .ok (.aload 4, 2) := by decide +kernel
theorem dL_unary_2 : decode cL_unary 2 = .ok (.iconst 0, 1) := by decide +kernel
theorem dL_unary_3 : decode cL_unary 3 = .ok (.aload_n 0, 1) := by decide +kernel
theorem dL_unary_4 : decode cL_unary 4 = .ok (.iload_n 1, 1) := by decide +kernel
theorem dL_unary_5 : decode cL_unary 5 = .ok (.iload_n 2, 1) := by decide +kernel
theorem dL_unary_6 : decode cL_unary 6 = .ok (.iload_n 3, 1) := by decide +kernel
theorem dL_unary_7 : decode cL_unary 7 = .ok (.invokevirtual 31, 3) := by decide +kernel
theorem dL_unary_10 : decode cL_unary 10 = .ok (.i2l, 1) := by decide +kernel
theorem dL_unary_11 : decode cL_unary 11 = .ok (.lastore, 1) := by decide +kernel
theorem dL_unary_12 : decode cL_unary 12 = .ok (.goto 15, 3) := by decide +kernel
theorem dL_unary_15 : decode cL_unary 15 = .ok (.astore 5, 2) := by decide +kernel
theorem dL_unary_17 : decode cL_unary 17 = .ok (.iconst 1, 1) := by decide +kernel
theorem dL_unary_18 : decode cL_unary 18 = .ok (.ireturn, 1) := by decide +kernel
theorem dL_unary_19 : decode cL_unary 19 = .ok (.astore 5, 2) := by decide +kernel
theorem dL_unary_21 : decode cL_unary 21 = .ok (.iconst 2, 1) := by decide +kernel
theorem dL_unary_22 : decode cL_unary 22 = .ok (.ireturn, 1) := by decide +kernel
theorem dL_unary_23 : decode cL_unary 23 = .ok (.astore 5, 2) := by decide +kernel
theorem dL_unary_25 : decode cL_unary 25 = .ok (.iconst 3, 1) := by decide +kernel
theorem dL_unary_26 : decode cL_unary 26 = .ok (.ireturn, 1) := by decide +kernel
theorem dL_unary_27 : decode cL_unary 27 = .ok (.iconst 0, 1) := by decide +kernel
theorem dL_unary_28 : decode cL_unary 28 = .ok (.ireturn, 1) := by decide +kernel
set_option maxRecDepth 20000 in
theorem ggL_mark_X3_mark : GoodIn wsL_mark wsX3_mark := goodIn_ca (goodIn_r _ [6, 7, 8, 9, 10, 5, 11, 12, 13, 14, 15, 16, 17, 18, 19, 20, 21, 22, 23, 24, 25, 26, 27, 28, 29, 30, 31, 32, 33, 34, 35, 36, 37, 38, 39, 40, 41, 42, 43, 44, 45, 46, 47, 48, 49, 50, 51, 52, 53, 54, 55, 56, 57, 58, 59, 60, 61, 62] (by decide +kernel) (by decide +kernel)) (goodIn_sub (fun _ h => List.mem_cons_of_mem _ (List.mem_append_right _ h)) (by decide +kernel))
set_option maxRecDepth 20000 in
theorem gL_mark_X3_mark : GoodIn wsL_mark (wsV RL 35 RX3 yX3_mark wsX3_mark) := goodIn_app (goodIn_of _ (by decide +kernel)) ggL_mark_X3_mark
theorem dL_mark_0 : decode cL_mark 0 = .ok (.aload_n 0, 1) := by decide +kernel
theorem dL_mark_1 : decode cL_mark 1 = .ok (.invokevirtual 35, 3) := by decide +kernel
theorem dL_mark_4 : decode cL_mark 4 = .ok (.goto 6, 3) := by decide +kernel
theorem dL_mark_7 : decode cL_mark 7 = .ok (.astore_n 1, 1) := by decide +kernel
theorem dL_mark_8 : decode cL_mark 8 = .ok (.iconst 1, 1) := by decide +kernel
theorem dL_mark_9 : decode cL_mark 9 = .ok (.ireturn, 1) := by decide +kernel
theorem dL_mark_10 : decode cL_mark 10 = .ok (.iconst 0, 1) := by decide +kernel
theorem dL_mark_11 : decode cL_mark 11 = .ok (.ireturn, 1) := by decide +kernel
set_option maxRecDepth 20000 in
theorem ggL_finish_X3_finish : GoodIn wsL_finish wsX3_finish := goodIn_ca (goodIn_r _ [6, 7, 8, 9, 10, 11, 5, 12, 13, 14, 15, 16, 17, 18, 19, 20, 21, 22, 23, 24, 25, 26, 27, 28, 29, 30, 31, 32, 33, 34, 35, 36, 37, 38, 39, 40, 41, 42, 43, 44, 45, 46, 47, 48, 49, 50, 51, 52, 53, 54, 55, 56, 57, 58, 59] (by decide +kernel) (by decide +kernel)) (goodIn_sub (fun _ h => List.mem_cons_of_mem _ (List.mem_append_right _ h)) (by decide +kernel))
set_option maxRecDepth 20000 in
theorem gL_finish_X3_finish : GoodIn wsL_finish (wsV RL 38 RX3 yX3_finish wsX3_finish) := goodIn_app (goodIn_of _ (by decide +kernel)) ggL_finish_X3_finish
theorem dL_finish_0 : decode cL_finish 0 = .ok (.aload_n 1, 1) := by decide +kernel
theorem dL_finish_1 : decode cL_finish 1 = .ok (.iconst 0, 1) := by decide +kernel
theorem dL_finish_2 : decode cL_finish 2 = .ok (.aload_n 0, 1) := by decide +kernel
theorem dL_finish_3 : decode cL_finish 3 = .ok (.invokevirtual 38, 3) := by decide +kernel
theorem dL_finish_6 : decode cL_finish 6 = .ok (.i2l, 1) := by decide +kernel
theorem dL_finish_7 : decode cL_finish 7 = .ok (.lastore, 1) := by decide +kernel
theorem dL_finish_8 : decode cL_finish 8 = .ok (.goto 6, 3) := by decide +kernel
theorem dL_finish_11 : decode cL_finish 11 = .ok (.astore_n 2, 1) := by decide +kernel
theorem dL_finish_12 : decode cL_finish 12 = .ok (.iconst 1, 1) := by decide +kernel
theorem dL_finish_13 : decode cL_finish 13 = .ok (.ireturn, 1) := by decide +kernel
theorem dL_finish_14 : decode cL_finish 14 = .ok (.iconst 0, 1) := by decide +kernel
theorem dL_finish_15 : decode cL_finish 15 = .ok (.ireturn, 1) := by decide +kernel
set_option maxRecDepth 20000 in
theorem ggL_at_X3_at : GoodIn wsL_at wsX3_at := goodIn_ca (goodIn_r _ [6, 7, 8, 9, 10, 11, 5, 12, 13, 14, 15, 16, 17, 18, 19, 20, 21, 22, 23, 24, 25, 26, 27, 28, 29] (by decide +kernel) (by decide +kernel)) (goodIn_sub (fun _ h => List.mem_cons_of_mem _ (List.mem_append_right _ h)) (by decide +kernel))
set_option maxRecDepth 20000 in
theorem gL_at_X3_at : GoodIn wsL_at (wsV RL 42 RX3 yX3_at wsX3_at) := goodIn_app (goodIn_of _ (by decide +kernel)) ggL_at_X3_at
theorem dL_at_0 : decode cL_at 0 = .ok (.aload_n 2, 1) := by decide +kernel
theorem dL_at_1 : decode cL_at 1 = .ok (.iconst 0, 1) := by decide +kernel
theorem dL_at_2 : decode cL_at 2 = .ok (.aload_n 0, 1) := by decide +kernel
theorem dL_at_3 : decode cL_at 3 = .ok (.iload_n 1, 1) := by decide +kernel
theorem dL_at_4 : decode cL_at 4 = .ok (.invokevirtual 42, 3) := by decide +kernel
theorem dL_at_7 : decode cL_at 7 = .ok (.i2l, 1) := by decide +kernel
theorem dL_at_8 : decode cL_at 8 = .ok (.lastore, 1) := by decide +kernel
theorem dL_at_9 : decode cL_at 9 = .ok (.goto 6, 3) := by decide +kernel
theorem dL_at_12 : decode cL_at 12 = .ok (.astore_n 3, 1) := by decide +kernel
theorem dL_at_13 : decode cL_at 13 = .ok (.iconst 1, 1) := by decide +kernel
theorem dL_at_14 : decode cL_at 14 = .ok (.ireturn, 1) := by decide +kernel
theorem dL_at_15 : decode cL_at 15 = .ok (.iconst 0, 1) := by decide +kernel
theorem dL_at_16 : decode cL_at 16 = .ok (.ireturn, 1) := by decide +kernel
set_option maxRecDepth 20000 in
theorem ggL_alter_X3_alter : GoodIn wsL_alter wsX3_alter := goodIn_ca (goodIn_ca (goodIn_r _ [7, 8, 9, 10, 11, 12, 13, 14, 6, 15, 16, 17, 18, 19, 20, 21, 22, 23, 24, 25, 26, 27, 28, 29, 30, 31, 32] (by decide +kernel) (by decide +kernel)) (goodIn_sub (fun _ h => List.mem_cons_of_mem _ (List.mem_append_left _ (List.mem_append_right _ h))) (by decide +kernel))) (goodIn_sub (fun _ h => List.mem_cons_of_mem _ (List.mem_append_right _ h)) (by decide +kernel))
set_option maxRecDepth 20000 in
theorem gL_alter_X3_alter : GoodIn wsL_alter (wsV RL 46 RX3 yX3_alter wsX3_alter) := goodIn_app (goodIn_of _ (by decide +kernel)) ggL_alter_X3_alter
theorem dL_alter_0 : decode cL_alter 0 = .ok (.aload_n 0, 1) := by decide +kernel
theorem dL_alter_1 : decode cL_alter 1 = .ok (.iload_n 1, 1) := by decide +kernel
theorem dL_alter_2 : decode cL_alter 2 = .ok (.iload_n 2, 1) := by decide +kernel
theorem dL_alter_3 : decode cL_alter 3 = .ok (.invokevirtual 46, 3) := by decide +kernel
theorem dL_alter_6 : decode cL_alter 6 = .ok (.goto 9, 3) := by decide +kernel
theorem dL_alter_9 : decode cL_alter 9 = .ok (.astore_n 3, 1) := by decide +kernel
theorem dL_alter_10 : decode cL_alter 10 = .ok (.iconst 1, 1) := by decide +kernel
theorem dL_alter_11 : decode cL_alter 11 = .ok (.ireturn, 1) := by decide +kernel
theorem dL_alter_12 : decode cL_alter 12 = .ok (.astore_n 3, 1) := by decide +kernel
theorem dL_alter_13 : decode cL_alter 13 = .ok (.iconst 2, 1) := by decide +kernel
theorem dL_alter_14 : decode cL_alter 14 = .ok (.ireturn, 1) := by decide +kernel
theorem dL_alter_15 : decode cL_alter 15 = .ok (.iconst 0, 1) := by decide +kernel
theorem dL_alter_16 : decode cL_alter 16 = .ok (.ireturn, 1) := by decide +kernel
set_option maxRecDepth 20000 in
theorem ggL_load_X3_load : GoodIn wsL_load wsX3_load := goodIn_ca (goodIn_r _ [6, 7, 8, 9, 10, 11, 12, 13, 14, 15, 16, 17, 18, 19, 20, 21, 22, 23, 24, 25, 26, 27, 28, 29, 30, 31, 32, 33, 34, 35, 36, 37, 38, 39, 40, 41, 42, 43, 44, 45, 46, 47, 48, 49, 50, 51, 52, 53, 54, 55, 56, 57, 58, 59, 60, 61, 62, 63, 64, 65, 66, 67, 68] (by decide +kernel) (by decide +kernel)) (goodIn_sub (fun _ h => List.mem_cons_of_mem _ (List.mem_append_right _ h)) (by decide +kernel))
set_option maxRecDepth 20000 in
theorem gL_load_X3_load : GoodIn wsL_load (wsV RL 49 RX3 yX3_load wsX3_load) := goodIn_app (goodIn_of _ (by decide +kernel)) ggL_load_X3_load
theorem dL_load_0 : decode cL_load 0 = .ok (.aload_n 1, 1) := by decide +kernel
theorem dL_load_1 : decode cL_load 1 = .ok (.iconst 0, 1) := by decide +kernel
theorem dL_load_2 : decode cL_load 2 = .ok (.aload_n 0, 1) := by decide +kernel
theorem dL_load_3 : decode cL_load 3 = .ok (.invokevirtual 49, 3) := by decide +kernel
theorem dL_load_6 : decode cL_load 6 = .ok (.ifCond .eq 7, 3) := by decide +kernel
theorem dL_load_9 : decode cL_load 9 = .ok (.lconst 1, 1) := by decide +kernel
theorem dL_load_10 : decode cL_load 10 = .ok (.goto 4, 3) := by decide +kernel
theorem dL_load_13 : decode cL_load 13 = .ok (.lconst 0, 1) := by decide +kernel
theorem dL_load_14 : decode cL_load 14 = .ok (.lastore, 1) := by decide +kernel
theorem dL_load_15 : decode cL_load 15 = .ok (.goto 6, 3) := by decide +kernel
theorem dL_load_18 : decode cL_load 18 = .ok (.astore_n 2, 1) := by decide +kernel
theorem dL_load_19 : decode cL_load 19 = .ok (.iconst 1, 1) := by decide +kernel
theorem dL_load_20 : decode cL_load 20 = .ok (.ireturn, 1) := by decide +kernel
theorem dL_load_21 : decode cL_load 21 = .ok (.iconst 0, 1) := by decide +kernel
theorem dL_load_22 : decode cL_load 22 = .ok (.ireturn, 1) := by decide +kernel
set_option maxRecDepth 20000 in
theorem ggL_get_X3_get : GoodIn wsL_get wsX3_get := goodIn_ca (goodIn_ca (goodIn_r _ [7, 8, 9, 10, 6, 11, 12, 13, 14, 15, 16, 17, 18, 19, 20, 21, 22, 23, 24, 25, 26, 27, 28, 29, 30, 31, 32, 33, 34, 35, 36, 37, 38, 39, 40, 41, 42, 43, 44, 45, 46, 47, 48, 49, 50, 51, 52, 53, 54, 55, 56, 57, 58, 59, 60, 61, 62, 63, 64, 65, 66, 67, 68, 69, 70, 71] (by decide +kernel) (by decide +kernel)) (goodIn_sub (fun _ h => List.mem_cons_of_mem _ (List.mem_append_left _ (List.mem_append_right _ h))) (by decide +kernel))) (goodIn_sub (fun _ h => List.mem_cons_of_mem _ (List.mem_append_right _ h)) (by decide +kernel))
