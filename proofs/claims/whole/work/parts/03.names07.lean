theorem dX4_mark_36 : decode cX4_mark 36 = .ok (.invokevirtual 82, 3) := by decide +kernel
theorem dX4_mark_39 : decode cX4_mark 39 = .ok (.aload_n 0, 1) := by decide +kernel
theorem dX4_mark_40 : decode cX4_mark 40 = .ok (.dup, 1) := by decide +kernel
theorem dX4_mark_41 : decode cX4_mark 41 = .ok (.getfield 62, 3) := by decide +kernel
theorem dX4_mark_44 : decode cX4_mark 44 = .ok (.iconst 1, 1) := by decide +kernel
theorem dX4_mark_45 : decode cX4_mark 45 = .ok (.iadd, 1) := by decide +kernel
theorem dX4_mark_46 : decode cX4_mark 46 = .ok (.putfield 62, 3) := by decide +kernel
theorem dX4_mark_49 : decode cX4_mark 49 = .ok (.return_, 1) := by decide +kernel
set_option maxRecDepth 20000 in
theorem ggX4_finish_X4_add : GoodIn wsX4_finish wsX4_add := goodIn_r _ [13, 4, 7, 14, 23, 24, 25, 26, 27, 28, 29, 30, 31, 32, 33, 34, 35, 36, 37, 38, 39, 40, 41, 42, 43] (by decide +kernel) (by decide +kernel)
set_option maxRecDepth 20000 in
theorem gX4_finish_X4_add : GoodIn wsX4_finish (wsV RX4 75 RX4 yX4_add wsX4_add) := goodIn_app (goodIn_of _ (by decide +kernel)) ggX4_finish_X4_add
set_option maxRecDepth 20000 in
theorem ggX4_finish_X4_shift : GoodIn wsX4_finish wsX4_shift := goodIn_r _ [18, 3, 14, 19, 20, 21, 12, 22, 8, 4, 23, 24, 25, 26, 27, 28, 29, 30, 31, 32, 33, 34, 35, 36, 37, 38, 39, 40, 41, 42, 43] (by decide +kernel) (by decide +kernel)
set_option maxRecDepth 20000 in
theorem gX4_finish_X4_shift : GoodIn wsX4_finish (wsV RX4 82 RX4 yX4_shift wsX4_shift) := goodIn_app (goodIn_of _ (by decide +kernel)) ggX4_finish_X4_shift
theorem dX4_finish_0 : decode cX4_finish 0 = .ok (.aload_n 0, 1) := by decide +kernel
theorem dX4_finish_1 : decode cX4_finish 1 = .ok (.aload_n 0, 1) := by decide +kernel
theorem dX4_finish_2 : decode cX4_finish 2 = .ok (.getfield 46, 3) := by decide +kernel
theorem dX4_finish_5 : decode cX4_finish 5 = .ok (.ifCond .eq 7, 3) := by decide +kernel
theorem dX4_finish_8 : decode cX4_finish 8 = .ok (.iconst 0, 1) := by decide +kernel
theorem dX4_finish_9 : decode cX4_finish 9 = .ok (.goto 4, 3) := by decide +kernel
theorem dX4_finish_12 : decode cX4_finish 12 = .ok (.iconst 1, 1) := by decide +kernel
theorem dX4_finish_13 : decode cX4_finish 13 = .ok (.putfield 35, 3) := by decide +kernel
theorem dX4_finish_16 : decode cX4_finish 16 = .ok (.aload_n 0, 1) := by decide +kernel
theorem dX4_finish_17 : decode cX4_finish 17 = .ok (.getfield 35, 3) := by decide +kernel
theorem dX4_finish_20 : decode cX4_finish 20 = .ok (.ifCond .le 5, 3) := by decide +kernel
theorem dX4_finish_23 : decode cX4_finish 23 = .ok (.iconst 0, 1) := by decide +kernel
theorem dX4_finish_24 : decode cX4_finish 24 = .ok (.ireturn, 1) := by decide +kernel
theorem dX4_finish_25 : decode cX4_finish 25 = .ok (.aload_n 0, 1) := by decide +kernel
theorem dX4_finish_26 : decode cX4_finish 26 = .ok (.aload_n 0, 1) := by decide +kernel
theorem dX4_finish_27 : decode cX4_finish 27 = .ok (.getfield 50, 3) := by decide +kernel
theorem dX4_finish_30 : decode cX4_finish 30 = .ok (.iconst 2, 1) := by decide +kernel
theorem dX4_finish_31 : decode cX4_finish 31 = .ok (.isub, 1) := by decide +kernel
theorem dX4_finish_32 : decode cX4_finish 32 = .ok (.putfield 50, 3) := by decide +kernel
theorem dX4_finish_35 : decode cX4_finish 35 = .ok (.aload_n 0, 1) := by decide +kernel
theorem dX4_finish_36 : decode cX4_finish 36 = .ok (.aload_n 0, 1) := by decide +kernel
theorem dX4_finish_37 : decode cX4_finish 37 = .ok (.getfield 50, 3) := by decide +kernel
theorem dX4_finish_40 : decode cX4_finish 40 = .ok (.invokevirtual 75, 3) := by decide +kernel
theorem dX4_finish_43 : decode cX4_finish 43 = .ok (.aload_n 0, 1) := by decide +kernel
theorem dX4_finish_44 : decode cX4_finish 44 = .ok (.iconst 2, 1) := by decide +kernel
theorem dX4_finish_45 : decode cX4_finish 45 = .ok (.putfield 50, 3) := by decide +kernel
theorem dX4_finish_48 : decode cX4_finish 48 = .ok (.aload_n 0, 1) := by decide +kernel
theorem dX4_finish_49 : decode cX4_finish 49 = .ok (.invokevirtual 82, 3) := by decide +kernel
theorem dX4_finish_52 : decode cX4_finish 52 = .ok (.aload_n 0, 1) := by decide +kernel
theorem dX4_finish_53 : decode cX4_finish 53 = .ok (.getfield 59, 3) := by decide +kernel
theorem dX4_finish_56 : decode cX4_finish 56 = .ok (.iconst 2, 1) := by decide +kernel
theorem dX4_finish_57 : decode cX4_finish 57 = .ok (.iadd, 1) := by decide +kernel
theorem dX4_finish_58 : decode cX4_finish 58 = .ok (.istore_n 1, 1) := by decide +kernel
theorem dX4_finish_59 : decode cX4_finish 59 = .ok (.aload_n 0, 1) := by decide +kernel
theorem dX4_finish_60 : decode cX4_finish 60 = .ok (.iload_n 1, 1) := by decide +kernel
theorem dX4_finish_61 : decode cX4_finish 61 = .ok (.bipush 7, 2) := by decide +kernel
theorem dX4_finish_63 : decode cX4_finish 63 = .ok (.iadd, 1) := by decide +kernel
theorem dX4_finish_64 : decode cX4_finish 64 = .ok (.bipush 8, 2) := by decide +kernel
theorem dX4_finish_66 : decode cX4_finish 66 = .ok (.idiv, 1) := by decide +kernel
theorem dX4_finish_67 : decode cX4_finish 67 = .ok (.putfield 65, 3) := by decide +kernel
theorem dX4_finish_70 : decode cX4_finish 70 = .ok (.iconst 0, 1) := by decide +kernel
theorem dX4_finish_71 : decode cX4_finish 71 = .ok (.istore_n 2, 1) := by decide +kernel
theorem dX4_finish_72 : decode cX4_finish 72 = .ok (.iload_n 2, 1) := by decide +kernel
theorem dX4_finish_73 : decode cX4_finish 73 = .ok (.aload_n 0, 1) := by decide +kernel
theorem dX4_finish_74 : decode cX4_finish 74 = .ok (.getfield 65, 3) := by decide +kernel
theorem dX4_finish_77 : decode cX4_finish 77 = .ok (.if_icmp .ge 16, 3) := by decide +kernel
theorem dX4_finish_80 : decode cX4_finish 80 = .ok (.aload_n 0, 1) := by decide +kernel
theorem dX4_finish_81 : decode cX4_finish 81 = .ok (.getfield 25, 3) := by decide +kernel
theorem dX4_finish_84 : decode cX4_finish 84 = .ok (.iload_n 2, 1) := by decide +kernel
theorem dX4_finish_85 : decode cX4_finish 85 = .ok (.iconst 0, 1) := by decide +kernel
theorem dX4_finish_86 : decode cX4_finish 86 = .ok (.iastore, 1) := by decide +kernel
theorem dX4_finish_87 : decode cX4_finish 87 = .ok (.iinc 2 1, 3) := by decide +kernel
theorem dX4_finish_90 : decode cX4_finish 90 = .ok (.goto (-18), 3) := by decide +kernel
theorem dX4_finish_93 : decode cX4_finish 93 = .ok (.iconst 0, 1) := by decide +kernel
theorem dX4_finish_94 : decode cX4_finish 94 = .ok (.istore_n 2, 1) := by decide +kernel
theorem dX4_finish_95 : decode cX4_finish 95 = .ok (.iload_n 2, 1) := by decide +kernel
theorem dX4_finish_96 : decode cX4_finish 96 = .ok (.iload_n 1, 1) := by decide +kernel
theorem dX4_finish_97 : decode cX4_finish 97 = .ok (.if_icmp .ge 57, 3) := by decide +kernel
theorem dX4_finish_100 : decode cX4_finish 100 = .ok (.iload_n 2, 1) := by decide +kernel
theorem dX4_finish_101 : decode cX4_finish 101 = .ok (.iload_n 1, 1) := by decide +kernel
theorem dX4_finish_102 : decode cX4_finish 102 = .ok (.iconst 1, 1) := by decide +kernel
theorem dX4_finish_103 : decode cX4_finish 103 = .ok (.isub, 1) := by decide +kernel
theorem dX4_finish_104 : decode cX4_finish 104 = .ok (.if_icmp .ge 14, 3) := by decide +kernel
theorem dX4_finish_107 : decode cX4_finish 107 = .ok (.aload_n 0, 1) := by decide +kernel
theorem dX4_finish_108 : decode cX4_finish 108 = .ok (.getfield 22, 3) := by decide +kernel
theorem dX4_finish_111 : decode cX4_finish 111 = .ok (.iload_n 2, 1) := by decide +kernel
theorem dX4_finish_112 : decode cX4_finish 112 = .ok (.iconst 1, 1) := by decide +kernel
theorem dX4_finish_113 : decode cX4_finish 113 = .ok (.iadd, 1) := by decide +kernel
theorem dX4_finish_114 : decode cX4_finish 114 = .ok (.iaload, 1) := by decide +kernel
theorem dX4_finish_115 : decode cX4_finish 115 = .ok (.goto 4, 3) := by decide +kernel
theorem dX4_finish_118 : decode cX4_finish 118 = .ok (.iconst 1, 1) := by decide +kernel
theorem dX4_finish_119 : decode cX4_finish 119 = .ok (.istore_n 3, 1) := by decide +kernel
theorem dX4_finish_120 : decode cX4_finish 120 = .ok (.aload_n 0, 1) := by decide +kernel
theorem dX4_finish_121 : decode cX4_finish 121 = .ok (.getfield 25, 3) := by decide +kernel
theorem dX4_finish_124 : decode cX4_finish 124 = .ok (.iload_n 2, 1) := by decide +kernel
theorem dX4_finish_125 : decode cX4_finish 125 = .ok (.bipush 8, 2) := by decide +kernel
theorem dX4_finish_127 : decode cX4_finish 127 = .ok (.idiv, 1) := by decide +kernel
theorem dX4_finish_128 : decode cX4_finish 128 = .ok (.aload_n 0, 1) := by decide +kernel
theorem dX4_finish_129 : decode cX4_finish 129 = .ok (.getfield 25, 3) := by decide +kernel
theorem dX4_finish_132 : decode cX4_finish 132 = .ok (.iload_n 2, 1) := by decide +kernel
theorem dX4_finish_133 : decode cX4_finish 133 = .ok (.bipush 8, 2) := by decide +kernel
theorem dX4_finish_135 : decode cX4_finish 135 = .ok (.idiv, 1) := by decide +kernel
theorem dX4_finish_136 : decode cX4_finish 136 = .ok (.iaload, 1) := by decide +kernel
theorem dX4_finish_137 : decode cX4_finish 137 = .ok (.iload_n 3, 1) := by decide +kernel
theorem dX4_finish_138 : decode cX4_finish 138 = .ok (.bipush 7, 2) := by decide +kernel
theorem dX4_finish_140 : decode cX4_finish 140 = .ok (.iload_n 2, 1) := by decide +kernel
theorem dX4_finish_141 : decode cX4_finish 141 = .ok (.bipush 8, 2) := by decide +kernel
theorem dX4_finish_143 : decode cX4_finish 143 = .ok (.irem, 1) := by decide +kernel
theorem dX4_finish_144 : decode cX4_finish 144 = .ok (.isub, 1) := by decide +kernel
theorem dX4_finish_145 : decode cX4_finish 145 = .ok (.ishl, 1) := by decide +kernel
theorem dX4_finish_146 : decode cX4_finish 146 = .ok (.iadd, 1) := by decide +kernel
theorem dX4_finish_147 : decode cX4_finish 147 = .ok (.iastore, 1) := by decide +kernel
theorem dX4_finish_148 : decode cX4_finish 148 = .ok (.iinc 2 1, 3) := by decide +kernel
theorem dX4_finish_151 : decode cX4_finish 151 = .ok (.goto (-56), 3) := by decide +kernel
theorem dX4_finish_154 : decode cX4_finish 154 = .ok (.aload_n 0, 1) := by decide +kernel
theorem dX4_finish_155 : decode cX4_finish 155 = .ok (.iconst 0, 1) := by decide +kernel
theorem dX4_finish_156 : decode cX4_finish 156 = .ok (.putfield 56, 3) := by decide +kernel
theorem dX4_finish_159 : decode cX4_finish 159 = .ok (.aload_n 0, 1) := by decide +kernel
theorem dX4_finish_160 : decode cX4_finish 160 = .ok (.iconst 0, 1) := by decide +kernel
theorem dX4_finish_161 : decode cX4_finish 161 = .ok (.putfield 46, 3) := by decide +kernel
theorem dX4_finish_164 : decode cX4_finish 164 = .ok (.aload_n 0, 1) := by decide +kernel
theorem dX4_finish_165 : decode cX4_finish 165 = .ok (.getfield 65, 3) := by decide +kernel
theorem dX4_finish_168 : decode cX4_finish 168 = .ok (.ireturn, 1) := by decide +kernel
theorem dX4_size_0 : decode cX4_size 0 = .ok (.aload_n 0, 1) := by decide +kernel
theorem dX4_size_1 : decode cX4_size 1 = .ok (.iconst 0, 1) := by decide +kernel
theorem dX4_size_2 : decode cX4_size 2 = .ok (.putfield 35, 3) := by decide +kernel
theorem dX4_size_5 : decode cX4_size 5 = .ok (.aload_n 0, 1) := by decide +kernel
theorem dX4_size_6 : decode cX4_size 6 = .ok (.getfield 65, 3) := by decide +kernel
theorem dX4_size_9 : decode cX4_size 9 = .ok (.ireturn, 1) := by decide +kernel
theorem dX4_at_0 : decode cX4_at 0 = .ok (.aload_n 0, 1) := by decide +kernel
theorem dX4_at_1 : decode cX4_at 1 = .ok (.iload_n 1, 1) := by decide +kernel
theorem dX4_at_2 : decode cX4_at 2 = .ok (.ifCond .lt 11, 3) := by decide +kernel
theorem dX4_at_5 : decode cX4_at 5 = .ok (.iload_n 1, 1) := by decide +kernel
theorem dX4_at_6 : decode cX4_at 6 = .ok (.aload_n 0, 1) := by decide +kernel
theorem dX4_at_7 : decode cX4_at 7 = .ok (.getfield 65, 3) := by decide +kernel
theorem dX4_at_10 : decode cX4_at 10 = .ok (.if_icmp .lt 7, 3) := by decide +kernel
theorem dX4_at_13 : decode cX4_at 13 = .ok (.iconst 1, 1) := by decide +kernel
theorem dX4_at_14 : decode cX4_at 14 = .ok (.goto 4, 3) := by decide +kernel
theorem dX4_at_17 : decode cX4_at 17 = .ok (.iconst 0, 1) := by decide +kernel
theorem dX4_at_18 : decode cX4_at 18 = .ok (.putfield 35, 3) := by decide +kernel
theorem dX4_at_21 : decode cX4_at 21 = .ok (.aload_n 0, 1) := by decide +kernel
theorem dX4_at_22 : decode cX4_at 22 = .ok (.getfield 35, 3) := by decide +kernel
theorem dX4_at_25 : decode cX4_at 25 = .ok (.ifCond .le 7, 3) := by decide +kernel
theorem dX4_at_28 : decode cX4_at 28 = .ok (.iconst 0, 1) := by decide +kernel
theorem dX4_at_29 : decode cX4_at 29 = .ok (.goto 9, 3) := by decide +kernel
theorem dX4_at_32 : decode cX4_at 32 = .ok (.aload_n 0, 1) := by decide +kernel
theorem dX4_at_33 : decode cX4_at 33 = .ok (.getfield 25, 3) := by decide +kernel
theorem dX4_at_36 : decode cX4_at 36 = .ok (.iload_n 1, 1) := by decide +kernel
theorem dX4_at_37 : decode cX4_at 37 = .ok (.iaload, 1) := by decide +kernel
theorem dX4_at_38 : decode cX4_at 38 = .ok (.ireturn, 1) := by decide +kernel
theorem dX4_alter_0 : decode cX4_alter 0 = .ok (.aload_n 0, 1) := by decide +kernel
theorem dX4_alter_1 : decode cX4_alter 1 = .ok (.iload_n 1, 1) := by decide +kernel
theorem dX4_alter_2 : decode cX4_alter 2 = .ok (.ifCond .lt 11, 3) := by decide +kernel
theorem dX4_alter_5 : decode cX4_alter 5 = .ok (.iload_n 1, 1) := by decide +kernel
theorem dX4_alter_6 : decode cX4_alter 6 = .ok (.aload_n 0, 1) := by decide +kernel
theorem dX4_alter_7 : decode cX4_alter 7 = .ok (.getfield 65, 3) := by decide +kernel
theorem dX4_alter_10 : decode cX4_alter 10 = .ok (.if_icmp .lt 7, 3) := by decide +kernel
theorem dX4_alter_13 : decode cX4_alter 13 = .ok (.iconst 1, 1) := by decide +kernel
theorem dX4_alter_14 : decode cX4_alter 14 = .ok (.goto 19, 3) := by decide +kernel
theorem dX4_alter_17 : decode cX4_alter 17 = .ok (.iload_n 2, 1) := by decide +kernel
theorem dX4_alter_18 : decode cX4_alter 18 = .ok (.ifCond .lt 10, 3) := by decide +kernel
theorem dX4_alter_21 : decode cX4_alter 21 = .ok (.iload_n 2, 1) := by decide +kernel
theorem dX4_alter_22 : decode cX4_alter 22 = .ok (.sipush 255, 3) := by decide +kernel
theorem dX4_alter_25 : decode cX4_alter 25 = .ok (.if_icmp .le 7, 3) := by decide +kernel
theorem dX4_alter_28 : decode cX4_alter 28 = .ok (.iconst 2, 1) := by decide +kernel
theorem dX4_alter_29 : decode cX4_alter 29 = .ok (.goto 4, 3) := by decide +kernel
theorem dX4_alter_32 : decode cX4_alter 32 = .ok (.iconst 0, 1) := by decide +kernel
theorem dX4_alter_33 : decode cX4_alter 33 = .ok (.putfield 35, 3) := by decide +kernel
theorem dX4_alter_36 : decode cX4_alter 36 = .ok (.aload_n 0, 1) := by decide +kernel
theorem dX4_alter_37 : decode cX4_alter 37 = .ok (.getfield 35, 3) := by decide +kernel
theorem dX4_alter_40 : decode cX4_alter 40 = .ok (.ifCond .ne 10, 3) := by decide +kernel
theorem dX4_alter_43 : decode cX4_alter 43 = .ok (.aload_n 0, 1) := by decide +kernel
theorem dX4_alter_44 : decode cX4_alter 44 = .ok (.getfield 25, 3) := by decide +kernel
theorem dX4_alter_47 : decode cX4_alter 47 = .ok (.iload_n 1, 1) := by decide +kernel
theorem dX4_alter_48 : decode cX4_alter 48 = .ok (.iload_n 2, 1) := by decide +kernel
theorem dX4_alter_49 : decode cX4_alter 49 = .ok (.iastore, 1) := by decide +kernel
theorem dX4_alter_50 : decode cX4_alter 50 = .ok (.return_, 1) := by decide +kernel
theorem dX4_next_0 : decode cX4_next 0 = .ok (.aload_n 0, 1) := by decide +kernel
theorem dX4_next_1 : decode cX4_next 1 = .ok (.getfield 101, 3) := by decide +kernel
theorem dX4_next_4 : decode cX4_next 4 = .ok (.bipush 8, 2) := by decide +kernel
theorem dX4_next_6 : decode cX4_next 6 = .ok (.idiv, 1) := by decide +kernel
theorem dX4_next_7 : decode cX4_next 7 = .ok (.aload_n 0, 1) := by decide +kernel
theorem dX4_next_8 : decode cX4_next 8 = .ok (.getfield 104, 3) := by decide +kernel
theorem dX4_next_11 : decode cX4_next 11 = .ok (.if_icmp .ge 31, 3) := by decide +kernel
theorem dX4_next_14 : decode cX4_next 14 = .ok (.aload_n 0, 1) := by decide +kernel
theorem dX4_next_15 : decode cX4_next 15 = .ok (.getfield 28, 3) := by decide +kernel
theorem dX4_next_18 : decode cX4_next 18 = .ok (.aload_n 0, 1) := by decide +kernel
theorem dX4_next_19 : decode cX4_next 19 = .ok (.getfield 101, 3) := by decide +kernel
theorem dX4_next_22 : decode cX4_next 22 = .ok (.bipush 8, 2) := by decide +kernel
theorem dX4_next_24 : decode cX4_next 24 = .ok (.idiv, 1) := by decide +kernel
theorem dX4_next_25 : decode cX4_next 25 = .ok (.iaload, 1) := by decide +kernel
theorem dX4_next_26 : decode cX4_next 26 = .ok (.bipush 7, 2) := by decide +kernel
theorem dX4_next_28 : decode cX4_next 28 = .ok (.aload_n 0, 1) := by decide +kernel
theorem dX4_next_29 : decode cX4_next 29 = .ok (.getfield 101, 3) := by decide +kernel
theorem dX4_next_32 : decode cX4_next 32 = .ok (.bipush 8, 2) := by decide +kernel
theorem dX4_next_34 : decode cX4_next 34 = .ok (.irem, 1) := by decide +kernel
theorem dX4_next_35 : decode cX4_next 35 = .ok (.isub, 1) := by decide +kernel
theorem dX4_next_36 : decode cX4_next 36 = .ok (.ishr, 1) := by decide +kernel
theorem dX4_next_37 : decode cX4_next 37 = .ok (.iconst 1, 1) := by decide +kernel
theorem dX4_next_38 : decode cX4_next 38 = .ok (.iand, 1) := by decide +kernel
theorem dX4_next_39 : decode cX4_next 39 = .ok (.goto 4, 3) := by decide +kernel
theorem dX4_next_42 : decode cX4_next 42 = .ok (.iconst 0, 1) := by decide +kernel
theorem dX4_next_43 : decode cX4_next 43 = .ok (.istore_n 1, 1) := by decide +kernel
theorem dX4_next_44 : decode cX4_next 44 = .ok (.aload_n 0, 1) := by decide +kernel
theorem dX4_next_45 : decode cX4_next 45 = .ok (.dup, 1) := by decide +kernel
theorem dX4_next_46 : decode cX4_next 46 = .ok (.getfield 101, 3) := by decide +kernel
theorem dX4_next_49 : decode cX4_next 49 = .ok (.iconst 1, 1) := by decide +kernel
theorem dX4_next_50 : decode cX4_next 50 = .ok (.iadd, 1) := by decide +kernel
theorem dX4_next_51 : decode cX4_next 51 = .ok (.putfield 101, 3) := by decide +kernel
theorem dX4_next_54 : decode cX4_next 54 = .ok (.iload_n 1, 1) := by decide +kernel
theorem dX4_next_55 : decode cX4_next 55 = .ok (.ireturn, 1) := by decide +kernel
set_option maxRecDepth 20000 in
theorem ggX4_load_X4_copyStarts : GoodIn wsX4_load wsX4_copyStarts := goodIn_r _ [14, 15, 16, 21, 22, 23, 24, 25, 26, 27, 28, 29, 30, 31, 32, 33, 34, 35, 36, 37, 38, 39, 40, 41] (by decide +kernel) (by decide +kernel)
set_option maxRecDepth 20000 in
theorem gX4_load_X4_copyStarts : GoodIn wsX4_load (wsV RX4 68 RX4 yX4_copyStarts wsX4_copyStarts) := goodIn_app (goodIn_of _ (by decide +kernel)) ggX4_load_X4_copyStarts
set_option maxRecDepth 20000 in
theorem ggX4_load_X4_next : GoodIn wsX4_load wsX4_next := goodIn_r _ [20, 8, 3, 4, 21, 22, 23, 24, 25, 26, 27, 28, 29, 30, 31, 32, 33, 34, 35, 36, 37, 38, 39, 40, 41] (by decide +kernel) (by decide +kernel)
set_option maxRecDepth 20000 in
theorem gX4_load_X4_next : GoodIn wsX4_load (wsV RX4 113 RX4 yX4_next wsX4_next) := goodIn_app (goodIn_of _ (by decide +kernel)) ggX4_load_X4_next
theorem dX4_load_0 : decode cX4_load 0 = .ok (.aload_n 0, 1) := by decide +kernel
theorem dX4_load_1 : decode cX4_load 1 = .ok (.aload_n 0, 1) := by decide +kernel
theorem dX4_load_2 : decode cX4_load 2 = .ok (.getfield 65, 3) := by decide +kernel
theorem dX4_load_5 : decode cX4_load 5 = .ok (.ifCond .ne 7, 3) := by decide +kernel
theorem dX4_load_8 : decode cX4_load 8 = .ok (.iconst 1, 1) := by decide +kernel
theorem dX4_load_9 : decode cX4_load 9 = .ok (.goto 4, 3) := by decide +kernel
theorem dX4_load_12 : decode cX4_load 12 = .ok (.iconst 0, 1) := by decide +kernel
theorem dX4_load_13 : decode cX4_load 13 = .ok (.putfield 35, 3) := by decide +kernel
theorem dX4_load_16 : decode cX4_load 16 = .ok (.aload_n 0, 1) := by decide +kernel
theorem dX4_load_17 : decode cX4_load 17 = .ok (.getfield 35, 3) := by decide +kernel
theorem dX4_load_20 : decode cX4_load 20 = .ok (.ifCond .le 5, 3) := by decide +kernel
theorem dX4_load_23 : decode cX4_load 23 = .ok (.iconst 0, 1) := by decide +kernel
theorem dX4_load_24 : decode cX4_load 24 = .ok (.ireturn, 1) := by decide +kernel
theorem dX4_load_25 : decode cX4_load 25 = .ok (.aload_n 0, 1) := by decide +kernel
theorem dX4_load_26 : decode cX4_load 26 = .ok (.aload_n 0, 1) := by decide +kernel
theorem dX4_load_27 : decode cX4_load 27 = .ok (.getfield 65, 3) := by decide +kernel
theorem dX4_load_30 : decode cX4_load 30 = .ok (.putfield 104, 3) := by decide +kernel
theorem dX4_load_33 : decode cX4_load 33 = .ok (.iconst 0, 1) := by decide +kernel
theorem dX4_load_34 : decode cX4_load 34 = .ok (.istore_n 1, 1) := by decide +kernel
theorem dX4_load_35 : decode cX4_load 35 = .ok (.iload_n 1, 1) := by decide +kernel
theorem dX4_load_36 : decode cX4_load 36 = .ok (.aload_n 0, 1) := by decide +kernel
theorem dX4_load_37 : decode cX4_load 37 = .ok (.getfield 65, 3) := by decide +kernel
theorem dX4_load_40 : decode cX4_load 40 = .ok (.if_icmp .ge 21, 3) := by decide +kernel
theorem dX4_load_43 : decode cX4_load 43 = .ok (.aload_n 0, 1) := by decide +kernel
theorem dX4_load_44 : decode cX4_load 44 = .ok (.getfield 28, 3) := by decide +kernel
theorem dX4_load_47 : decode cX4_load 47 = .ok (.iload_n 1, 1) := by decide +kernel
theorem dX4_load_48 : decode cX4_load 48 = .ok (.aload_n 0, 1) := by decide +kernel
theorem dX4_load_49 : decode cX4_load 49 = .ok (.getfield 25, 3) := by decide +kernel
theorem dX4_load_52 : decode cX4_load 52 = .ok (.iload_n 1, 1) := by decide +kernel
theorem dX4_load_53 : decode cX4_load 53 = .ok (.iaload, 1) := by decide +kernel
theorem dX4_load_54 : decode cX4_load 54 = .ok (.iastore, 1) := by decide +kernel
theorem dX4_load_55 : decode cX4_load 55 = .ok (.iinc 1 1, 3) := by decide +kernel
theorem dX4_load_58 : decode cX4_load 58 = .ok (.goto (-23), 3) := by decide +kernel
theorem dX4_load_61 : decode cX4_load 61 = .ok (.aload_n 0, 1) := by decide +kernel
theorem dX4_load_62 : decode cX4_load 62 = .ok (.bipush 64, 2) := by decide +kernel
theorem dX4_load_64 : decode cX4_load 64 = .ok (.invokevirtual 68, 3) := by decide +kernel
theorem dX4_load_67 : decode cX4_load 67 = .ok (.aload_n 0, 1) := by decide +kernel
theorem dX4_load_68 : decode cX4_load 68 = .ok (.sipush 510, 3) := by decide +kernel
theorem dX4_load_71 : decode cX4_load 71 = .ok (.putfield 107, 3) := by decide +kernel
theorem dX4_load_74 : decode cX4_load 74 = .ok (.aload_n 0, 1) := by decide +kernel
theorem dX4_load_75 : decode cX4_load 75 = .ok (.iconst 0, 1) := by decide +kernel
theorem dX4_load_76 : decode cX4_load 76 = .ok (.putfield 110, 3) := by decide +kernel
theorem dX4_load_79 : decode cX4_load 79 = .ok (.aload_n 0, 1) := by decide +kernel
theorem dX4_load_80 : decode cX4_load 80 = .ok (.iconst 0, 1) := by decide +kernel
theorem dX4_load_81 : decode cX4_load 81 = .ok (.putfield 101, 3) := by decide +kernel
theorem dX4_load_84 : decode cX4_load 84 = .ok (.iconst 0, 1) := by decide +kernel
theorem dX4_load_85 : decode cX4_load 85 = .ok (.istore_n 1, 1) := by decide +kernel
theorem dX4_load_86 : decode cX4_load 86 = .ok (.iload_n 1, 1) := by decide +kernel
theorem dX4_load_87 : decode cX4_load 87 = .ok (.bipush 9, 2) := by decide +kernel
theorem dX4_load_89 : decode cX4_load 89 = .ok (.if_icmp .ge 24, 3) := by decide +kernel
theorem dX4_load_92 : decode cX4_load 92 = .ok (.aload_n 0, 1) := by decide +kernel
theorem dX4_load_93 : decode cX4_load 93 = .ok (.iconst 2, 1) := by decide +kernel
theorem dX4_load_94 : decode cX4_load 94 = .ok (.aload_n 0, 1) := by decide +kernel
theorem dX4_load_95 : decode cX4_load 95 = .ok (.getfield 110, 3) := by decide +kernel
theorem dX4_load_98 : decode cX4_load 98 = .ok (.imul, 1) := by decide +kernel
theorem dX4_load_99 : decode cX4_load 99 = .ok (.aload_n 0, 1) := by decide +kernel
theorem dX4_load_100 : decode cX4_load 100 = .ok (.invokevirtual 113, 3) := by decide +kernel
theorem dX4_load_103 : decode cX4_load 103 = .ok (.iadd, 1) := by decide +kernel
theorem dX4_load_104 : decode cX4_load 104 = .ok (.putfield 110, 3) := by decide +kernel
theorem dX4_load_107 : decode cX4_load 107 = .ok (.iinc 1 1, 3) := by decide +kernel
theorem dX4_load_110 : decode cX4_load 110 = .ok (.goto (-24), 3) := by decide +kernel
theorem dX4_load_113 : decode cX4_load 113 = .ok (.aload_n 0, 1) := by decide +kernel
theorem dX4_load_114 : decode cX4_load 114 = .ok (.aload_n 0, 1) := by decide +kernel
theorem dX4_load_115 : decode cX4_load 115 = .ok (.getfield 110, 3) := by decide +kernel
theorem dX4_load_118 : decode cX4_load 118 = .ok (.sipush 510, 3) := by decide +kernel
theorem dX4_load_121 : decode cX4_load 121 = .ok (.if_icmp .ge 7, 3) := by decide +kernel
theorem dX4_load_124 : decode cX4_load 124 = .ok (.iconst 1, 1) := by decide +kernel
theorem dX4_load_125 : decode cX4_load 125 = .ok (.goto 4, 3) := by decide +kernel
theorem dX4_load_128 : decode cX4_load 128 = .ok (.iconst 0, 1) := by decide +kernel
theorem dX4_load_129 : decode cX4_load 129 = .ok (.putfield 117, 3) := by decide +kernel
theorem dX4_load_132 : decode cX4_load 132 = .ok (.aload_n 0, 1) := by decide +kernel
theorem dX4_load_133 : decode cX4_load 133 = .ok (.getfield 117, 3) := by decide +kernel
theorem dX4_load_136 : decode cX4_load 136 = .ok (.ireturn, 1) := by decide +kernel
set_option maxRecDepth 20000 in
theorem ggX4_grow_X4_next : GoodIn wsX4_grow wsX4_next := goodIn_r _ [7, 8, 9, 10, 11, 12, 13, 14, 15, 16, 17, 18, 19, 20, 21, 22, 23, 24, 25, 26, 27, 28, 29, 30, 31] (by decide +kernel) (by decide +kernel)
set_option maxRecDepth 20000 in
theorem gX4_grow_X4_next : GoodIn wsX4_grow (wsV RX4 113 RX4 yX4_next wsX4_next) := goodIn_app (goodIn_of _ (by decide +kernel)) ggX4_grow_X4_next
theorem dX4_grow_0 : decode cX4_grow 0 = .ok (.aload_n 0, 1) := by decide +kernel
theorem dX4_grow_1 : decode cX4_grow 1 = .ok (.getfield 107, 3) := by decide +kernel
theorem dX4_grow_4 : decode cX4_grow 4 = .ok (.sipush 256, 3) := by decide +kernel
theorem dX4_grow_7 : decode cX4_grow 7 = .ok (.if_icmp .ge 31, 3) := by decide +kernel
theorem dX4_grow_10 : decode cX4_grow 10 = .ok (.aload_n 0, 1) := by decide +kernel
theorem dX4_grow_11 : decode cX4_grow 11 = .ok (.iconst 2, 1) := by decide +kernel
theorem dX4_grow_12 : decode cX4_grow 12 = .ok (.aload_n 0, 1) := by decide +kernel
theorem dX4_grow_13 : decode cX4_grow 13 = .ok (.getfield 107, 3) := by decide +kernel
theorem dX4_grow_16 : decode cX4_grow 16 = .ok (.imul, 1) := by decide +kernel
theorem dX4_grow_17 : decode cX4_grow 17 = .ok (.putfield 107, 3) := by decide +kernel
theorem dX4_grow_20 : decode cX4_grow 20 = .ok (.aload_n 0, 1) := by decide +kernel
theorem dX4_grow_21 : decode cX4_grow 21 = .ok (.iconst 2, 1) := by decide +kernel
theorem dX4_grow_22 : decode cX4_grow 22 = .ok (.aload_n 0, 1) := by decide +kernel
theorem dX4_grow_23 : decode cX4_grow 23 = .ok (.getfield 110, 3) := by decide +kernel
theorem dX4_grow_26 : decode cX4_grow 26 = .ok (.imul, 1) := by decide +kernel
theorem dX4_grow_27 : decode cX4_grow 27 = .ok (.aload_n 0, 1) := by decide +kernel
theorem dX4_grow_28 : decode cX4_grow 28 = .ok (.invokevirtual 113, 3) := by decide +kernel
theorem dX4_grow_31 : decode cX4_grow 31 = .ok (.iadd, 1) := by decide +kernel
theorem dX4_grow_32 : decode cX4_grow 32 = .ok (.putfield 110, 3) := by decide +kernel
theorem dX4_grow_35 : decode cX4_grow 35 = .ok (.goto (-35), 3) := by decide +kernel
theorem dX4_grow_38 : decode cX4_grow 38 = .ok (.return_, 1) := by decide +kernel
set_option maxRecDepth 20000 in
theorem ggX4_read_X4_learn : GoodIn wsX4_read wsX4_learn := goodIn_r _ [10, 2, 5, 11, 23, 24, 25, 26, 27, 28, 29, 30, 31, 32, 33, 34, 35, 36, 37, 38, 39, 40, 41, 42, 43] (by decide +kernel) (by decide +kernel)
set_option maxRecDepth 20000 in
theorem gX4_read_X4_learn : GoodIn wsX4_read (wsV RX4 78 RX4 yX4_learn wsX4_learn) := goodIn_app (goodIn_of _ (by decide +kernel)) ggX4_read_X4_learn
set_option maxRecDepth 20000 in
theorem ggX4_read_X4_grow : GoodIn wsX4_read wsX4_grow := goodIn_r _ [15, 3, 4, 16, 17, 18, 9, 19, 20, 21, 22, 23, 24, 25, 26, 27, 28, 29, 30, 31, 32, 33, 34, 35, 36, 37, 38, 39, 40, 41, 42, 43] (by decide +kernel) (by decide +kernel)
set_option maxRecDepth 20000 in
theorem gX4_read_X4_grow : GoodIn wsX4_read (wsV RX4 120 RX4 yX4_grow wsX4_grow) := goodIn_app (goodIn_of _ (by decide +kernel)) ggX4_read_X4_grow
theorem dX4_read_0 : decode cX4_read 0 = .ok (.aload_n 0, 1) := by decide +kernel
theorem dX4_read_1 : decode cX4_read 1 = .ok (.getfield 7, 3) := by decide +kernel
theorem dX4_read_4 : decode cX4_read 4 = .ok (.iconst 4, 1) := by decide +kernel
theorem dX4_read_5 : decode cX4_read 5 = .ok (.aload_n 0, 1) := by decide +kernel
theorem dX4_read_6 : decode cX4_read 6 = .ok (.getfield 16, 3) := by decide +kernel
theorem dX4_read_9 : decode cX4_read 9 = .ok (.bipush 64, 2) := by decide +kernel
theorem dX4_read_11 : decode cX4_read 11 = .ok (.iload_n 1, 1) := by decide +kernel
theorem dX4_read_12 : decode cX4_read 12 = .ok (.iadd, 1) := by decide +kernel
theorem dX4_read_13 : decode cX4_read 13 = .ok (.iaload, 1) := by decide +kernel
theorem dX4_read_14 : decode cX4_read 14 = .ok (.imul, 1) := by decide +kernel
theorem dX4_read_15 : decode cX4_read 15 = .ok (.aload_n 0, 1) := by decide +kernel
theorem dX4_read_16 : decode cX4_read 16 = .ok (.getfield 107, 3) := by decide +kernel
theorem dX4_read_19 : decode cX4_read 19 = .ok (.bipush 64, 2) := by decide +kernel
theorem dX4_read_21 : decode cX4_read 21 = .ok (.idiv, 1) := by decide +kernel
theorem dX4_read_22 : decode cX4_read 22 = .ok (.iconst 4, 1) := by decide +kernel
theorem dX4_read_23 : decode cX4_read 23 = .ok (.irem, 1) := by decide +kernel
theorem dX4_read_24 : decode cX4_read 24 = .ok (.iadd, 1) := by decide +kernel
theorem dX4_read_25 : decode cX4_read 25 = .ok (.iaload, 1) := by decide +kernel
theorem dX4_read_26 : decode cX4_read 26 = .ok (.istore_n 2, 1) := by decide +kernel
theorem dX4_read_27 : decode cX4_read 27 = .ok (.aload_n 0, 1) := by decide +kernel
theorem dX4_read_28 : decode cX4_read 28 = .ok (.getfield 110, 3) := by decide +kernel
theorem dX4_read_31 : decode cX4_read 31 = .ok (.aload_n 0, 1) := by decide +kernel
theorem dX4_read_32 : decode cX4_read 32 = .ok (.getfield 107, 3) := by decide +kernel
theorem dX4_read_35 : decode cX4_read 35 = .ok (.iload_n 2, 1) := by decide +kernel
theorem dX4_read_36 : decode cX4_read 36 = .ok (.isub, 1) := by decide +kernel
theorem dX4_read_37 : decode cX4_read 37 = .ok (.if_icmp .ge 7, 3) := by decide +kernel
theorem dX4_read_40 : decode cX4_read 40 = .ok (.iconst 1, 1) := by decide +kernel
theorem dX4_read_41 : decode cX4_read 41 = .ok (.goto 4, 3) := by decide +kernel
theorem dX4_read_44 : decode cX4_read 44 = .ok (.iconst 0, 1) := by decide +kernel
theorem dX4_read_45 : decode cX4_read 45 = .ok (.istore_n 3, 1) := by decide +kernel
theorem dX4_read_46 : decode cX4_read 46 = .ok (.iload_n 3, 1) := by decide +kernel
theorem dX4_read_47 : decode cX4_read 47 = .ok (.ifCond .eq 15, 3) := by decide +kernel
theorem dX4_read_50 : decode cX4_read 50 = .ok (.aload_n 0, 1) := by decide +kernel
theorem dX4_read_51 : decode cX4_read 51 = .ok (.getfield 19, 3) := by decide +kernel
theorem dX4_read_54 : decode cX4_read 54 = .ok (.bipush 64, 2) := by decide +kernel
theorem dX4_read_56 : decode cX4_read 56 = .ok (.iload_n 1, 1) := by decide +kernel
theorem dX4_read_57 : decode cX4_read 57 = .ok (.iadd, 1) := by decide +kernel
theorem dX4_read_58 : decode cX4_read 58 = .ok (.iaload, 1) := by decide +kernel
theorem dX4_read_59 : decode cX4_read 59 = .ok (.goto 14, 3) := by decide +kernel
theorem dX4_read_62 : decode cX4_read 62 = .ok (.iconst 1, 1) := by decide +kernel
theorem dX4_read_63 : decode cX4_read 63 = .ok (.aload_n 0, 1) := by decide +kernel
theorem dX4_read_64 : decode cX4_read 64 = .ok (.getfield 19, 3) := by decide +kernel
theorem dX4_read_67 : decode cX4_read 67 = .ok (.bipush 64, 2) := by decide +kernel
theorem dX4_read_69 : decode cX4_read 69 = .ok (.iload_n 1, 1) := by decide +kernel
theorem dX4_read_70 : decode cX4_read 70 = .ok (.iadd, 1) := by decide +kernel
theorem dX4_read_71 : decode cX4_read 71 = .ok (.iaload, 1) := by decide +kernel
theorem dX4_read_72 : decode cX4_read 72 = .ok (.isub, 1) := by decide +kernel
theorem dX4_read_73 : decode cX4_read 73 = .ok (.istore 4, 2) := by decide +kernel
theorem dX4_read_75 : decode cX4_read 75 = .ok (.aload_n 0, 1) := by decide +kernel
theorem dX4_read_76 : decode cX4_read 76 = .ok (.iload_n 3, 1) := by decide +kernel
theorem dX4_read_77 : decode cX4_read 77 = .ok (.ifCond .eq 10, 3) := by decide +kernel
theorem dX4_read_80 : decode cX4_read 80 = .ok (.aload_n 0, 1) := by decide +kernel
theorem dX4_read_81 : decode cX4_read 81 = .ok (.getfield 110, 3) := by decide +kernel
theorem dX4_read_84 : decode cX4_read 84 = .ok (.goto 14, 3) := by decide +kernel
theorem dX4_read_87 : decode cX4_read 87 = .ok (.aload_n 0, 1) := by decide +kernel
theorem dX4_read_88 : decode cX4_read 88 = .ok (.getfield 110, 3) := by decide +kernel
theorem dX4_read_91 : decode cX4_read 91 = .ok (.aload_n 0, 1) := by decide +kernel
theorem dX4_read_92 : decode cX4_read 92 = .ok (.getfield 107, 3) := by decide +kernel
theorem dX4_read_95 : decode cX4_read 95 = .ok (.iload_n 2, 1) := by decide +kernel
theorem dX4_read_96 : decode cX4_read 96 = .ok (.isub, 1) := by decide +kernel
theorem dX4_read_97 : decode cX4_read 97 = .ok (.isub, 1) := by decide +kernel
theorem dX4_read_98 : decode cX4_read 98 = .ok (.putfield 110, 3) := by decide +kernel
theorem dX4_read_101 : decode cX4_read 101 = .ok (.aload_n 0, 1) := by decide +kernel
theorem dX4_read_102 : decode cX4_read 102 = .ok (.iload_n 3, 1) := by decide +kernel
theorem dX4_read_103 : decode cX4_read 103 = .ok (.ifCond .eq 12, 3) := by decide +kernel
theorem dX4_read_106 : decode cX4_read 106 = .ok (.aload_n 0, 1) := by decide +kernel
theorem dX4_read_107 : decode cX4_read 107 = .ok (.getfield 107, 3) := by decide +kernel
theorem dX4_read_110 : decode cX4_read 110 = .ok (.iload_n 2, 1) := by decide +kernel
theorem dX4_read_111 : decode cX4_read 111 = .ok (.isub, 1) := by decide +kernel
theorem dX4_read_112 : decode cX4_read 112 = .ok (.goto 4, 3) := by decide +kernel
theorem dX4_read_115 : decode cX4_read 115 = .ok (.iload_n 2, 1) := by decide +kernel
theorem dX4_read_116 : decode cX4_read 116 = .ok (.putfield 107, 3) := by decide +kernel
theorem dX4_read_119 : decode cX4_read 119 = .ok (.aload_n 0, 1) := by decide +kernel
theorem dX4_read_120 : decode cX4_read 120 = .ok (.bipush 64, 2) := by decide +kernel
theorem dX4_read_122 : decode cX4_read 122 = .ok (.iload_n 1, 1) := by decide +kernel
theorem dX4_read_123 : decode cX4_read 123 = .ok (.iadd, 1) := by decide +kernel
theorem dX4_read_124 : decode cX4_read 124 = .ok (.iload_n 3, 1) := by decide +kernel
theorem dX4_read_125 : decode cX4_read 125 = .ok (.invokevirtual 78, 3) := by decide +kernel
theorem dX4_read_128 : decode cX4_read 128 = .ok (.aload_n 0, 1) := by decide +kernel
theorem dX4_read_129 : decode cX4_read 129 = .ok (.invokevirtual 120, 3) := by decide +kernel
theorem dX4_read_132 : decode cX4_read 132 = .ok (.iload 4, 2) := by decide +kernel
theorem dX4_read_134 : decode cX4_read 134 = .ok (.ireturn, 1) := by decide +kernel
set_option maxRecDepth 20000 in
theorem ggX4_readBypass_X4_next : GoodIn wsX4_readBypass wsX4_next := goodIn_r _ [7, 8, 9, 10, 11, 12, 13, 14, 15, 16, 17, 18, 19, 20, 21, 22, 23, 24, 25, 26, 27, 28, 29, 30, 31] (by decide +kernel) (by decide +kernel)
set_option maxRecDepth 20000 in
theorem gX4_readBypass_X4_next : GoodIn wsX4_readBypass (wsV RX4 113 RX4 yX4_next wsX4_next) := goodIn_app (goodIn_of _ (by decide +kernel)) ggX4_readBypass_X4_next
theorem dX4_readBypass_0 : decode cX4_readBypass 0 = .ok (.aload_n 0, 1) := by decide +kernel
theorem dX4_readBypass_1 : decode cX4_readBypass 1 = .ok (.iconst 2, 1) := by decide +kernel
theorem dX4_readBypass_2 : decode cX4_readBypass 2 = .ok (.aload_n 0, 1) := by decide +kernel
theorem dX4_readBypass_3 : decode cX4_readBypass 3 = .ok (.getfield 110, 3) := by decide +kernel
theorem dX4_readBypass_6 : decode cX4_readBypass 6 = .ok (.imul, 1) := by decide +kernel
theorem dX4_readBypass_7 : decode cX4_readBypass 7 = .ok (.aload_n 0, 1) := by decide +kernel
theorem dX4_readBypass_8 : decode cX4_readBypass 8 = .ok (.invokevirtual 113, 3) := by decide +kernel
theorem dX4_readBypass_11 : decode cX4_readBypass 11 = .ok (.iadd, 1) := by decide +kernel
theorem dX4_readBypass_12 : decode cX4_readBypass 12 = .ok (.putfield 110, 3) := by decide +kernel
theorem dX4_readBypass_15 : decode cX4_readBypass 15 = .ok (.aload_n 0, 1) := by decide +kernel
theorem dX4_readBypass_16 : decode cX4_readBypass 16 = .ok (.getfield 110, 3) := by decide +kernel
theorem dX4_readBypass_19 : decode cX4_readBypass 19 = .ok (.aload_n 0, 1) := by decide +kernel
theorem dX4_readBypass_20 : decode cX4_readBypass 20 = .ok (.getfield 107, 3) := by decide +kernel
theorem dX4_readBypass_23 : decode cX4_readBypass 23 = .ok (.if_icmp .lt 7, 3) := by decide +kernel
theorem dX4_readBypass_26 : decode cX4_readBypass 26 = .ok (.iconst 1, 1) := by decide +kernel
theorem dX4_readBypass_27 : decode cX4_readBypass 27 = .ok (.goto 4, 3) := by decide +kernel
theorem dX4_readBypass_30 : decode cX4_readBypass 30 = .ok (.iconst 0, 1) := by decide +kernel
theorem dX4_readBypass_31 : decode cX4_readBypass 31 = .ok (.istore_n 1, 1) := by decide +kernel
theorem dX4_readBypass_32 : decode cX4_readBypass 32 = .ok (.aload_n 0, 1) := by decide +kernel
theorem dX4_readBypass_33 : decode cX4_readBypass 33 = .ok (.iload_n 1, 1) := by decide +kernel
theorem dX4_readBypass_34 : decode cX4_readBypass 34 = .ok (.ifCond .eq 15, 3) := by decide +kernel
theorem dX4_readBypass_37 : decode cX4_readBypass 37 = .ok (.aload_n 0, 1) := by decide +kernel
theorem dX4_readBypass_38 : decode cX4_readBypass 38 = .ok (.getfield 110, 3) := by decide +kernel
theorem dX4_readBypass_41 : decode cX4_readBypass 41 = .ok (.aload_n 0, 1) := by decide +kernel
theorem dX4_readBypass_42 : decode cX4_readBypass 42 = .ok (.getfield 107, 3) := by decide +kernel
theorem dX4_readBypass_45 : decode cX4_readBypass 45 = .ok (.isub, 1) := by decide +kernel
theorem dX4_readBypass_46 : decode cX4_readBypass 46 = .ok (.goto 7, 3) := by decide +kernel
theorem dX4_readBypass_49 : decode cX4_readBypass 49 = .ok (.aload_n 0, 1) := by decide +kernel
theorem dX4_readBypass_50 : decode cX4_readBypass 50 = .ok (.getfield 110, 3) := by decide +kernel
theorem dX4_readBypass_53 : decode cX4_readBypass 53 = .ok (.putfield 110, 3) := by decide +kernel
theorem dX4_readBypass_56 : decode cX4_readBypass 56 = .ok (.iload_n 1, 1) := by decide +kernel
theorem dX4_readBypass_57 : decode cX4_readBypass 57 = .ok (.ifCond .eq 7, 3) := by decide +kernel
theorem dX4_readBypass_60 : decode cX4_readBypass 60 = .ok (.iconst 1, 1) := by decide +kernel
theorem dX4_readBypass_61 : decode cX4_readBypass 61 = .ok (.goto 4, 3) := by decide +kernel
theorem dX4_readBypass_64 : decode cX4_readBypass 64 = .ok (.iconst 0, 1) := by decide +kernel
theorem dX4_readBypass_65 : decode cX4_readBypass 65 = .ok (.ireturn, 1) := by decide +kernel
set_option maxRecDepth 20000 in
theorem ggX4_get_X4_noContext : GoodIn wsX4_get wsX4_noContext := goodIn_r _ [6] (by decide +kernel) (by decide +kernel)
set_option maxRecDepth 20000 in
theorem gX4_get_X4_noContext : GoodIn wsX4_get (va_wsS RX4 39 yX4_noContext wsX4_noContext) := goodIn_app (goodIn_of _ (by decide +kernel)) ggX4_get_X4_noContext
set_option maxRecDepth 20000 in
theorem ggX4_get_X4_read : GoodIn wsX4_get wsX4_read := goodIn_r _ [10, 11, 12, 13, 14, 15, 16, 17, 18, 5, 19, 20, 21, 22, 23, 24, 25, 26, 27, 28, 29, 30, 31, 32, 33, 34, 35, 36, 37, 38, 39, 40, 41, 42, 43, 44, 45, 46, 47, 48, 49, 50, 51, 52] (by decide +kernel) (by decide +kernel)
set_option maxRecDepth 20000 in
theorem gX4_get_X4_read : GoodIn wsX4_get (wsV RX4 123 RX4 yX4_read wsX4_read) := goodIn_app (goodIn_of _ (by decide +kernel)) ggX4_get_X4_read
theorem dX4_get_0 : decode cX4_get 0 = .ok (.aload_n 0, 1) := by decide +kernel
theorem dX4_get_1 : decode cX4_get 1 = .ok (.iload_n 1, 1) := by decide +kernel
theorem dX4_get_2 : decode cX4_get 2 = .ok (.invokestatic 39, 3) := by decide +kernel
theorem dX4_get_5 : decode cX4_get 5 = .ok (.ifCond .eq 7, 3) := by decide +kernel
theorem dX4_get_8 : decode cX4_get 8 = .ok (.iconst 1, 1) := by decide +kernel
theorem dX4_get_9 : decode cX4_get 9 = .ok (.goto 15, 3) := by decide +kernel
theorem dX4_get_12 : decode cX4_get 12 = .ok (.aload_n 0, 1) := by decide +kernel
theorem dX4_get_13 : decode cX4_get 13 = .ok (.getfield 117, 3) := by decide +kernel
theorem dX4_get_16 : decode cX4_get 16 = .ok (.ifCond .ne 7, 3) := by decide +kernel
theorem dX4_get_19 : decode cX4_get 19 = .ok (.iconst 2, 1) := by decide +kernel
theorem dX4_get_20 : decode cX4_get 20 = .ok (.goto 4, 3) := by decide +kernel
theorem dX4_get_23 : decode cX4_get 23 = .ok (.iconst 0, 1) := by decide +kernel
theorem dX4_get_24 : decode cX4_get 24 = .ok (.putfield 35, 3) := by decide +kernel
theorem dX4_get_27 : decode cX4_get 27 = .ok (.aload_n 0, 1) := by decide +kernel
theorem dX4_get_28 : decode cX4_get 28 = .ok (.getfield 35, 3) := by decide +kernel
theorem dX4_get_31 : decode cX4_get 31 = .ok (.ifCond .le 7, 3) := by decide +kernel
theorem dX4_get_34 : decode cX4_get 34 = .ok (.iconst 0, 1) := by decide +kernel
theorem dX4_get_35 : decode cX4_get 35 = .ok (.goto 8, 3) := by decide +kernel
theorem dX4_get_38 : decode cX4_get 38 = .ok (.aload_n 0, 1) := by decide +kernel
theorem dX4_get_39 : decode cX4_get 39 = .ok (.iload_n 1, 1) := by decide +kernel
theorem dX4_get_40 : decode cX4_get 40 = .ok (.invokevirtual 123, 3) := by decide +kernel
theorem dX4_get_43 : decode cX4_get 43 = .ok (.ireturn, 1) := by decide +kernel
set_option maxRecDepth 20000 in
theorem ggX4_getPass_X4_readBypass : GoodIn wsX4_getPass wsX4_readBypass := goodIn_r _ [7, 8, 9, 10, 11, 12, 6, 13, 14, 15, 16, 17, 18, 19, 20, 21, 22, 23, 24, 25, 26, 27, 28, 29, 30, 31, 32, 33, 34, 35, 36, 37] (by decide +kernel) (by decide +kernel)
set_option maxRecDepth 20000 in
theorem gX4_getPass_X4_readBypass : GoodIn wsX4_getPass (wsV RX4 126 RX4 yX4_readBypass wsX4_readBypass) := goodIn_app (goodIn_of _ (by decide +kernel)) ggX4_getPass_X4_readBypass
theorem dX4_getPass_0 : decode cX4_getPass 0 = .ok (.aload_n 0, 1) := by decide +kernel
theorem dX4_getPass_1 : decode cX4_getPass 1 = .ok (.aload_n 0, 1) := by decide +kernel
theorem dX4_getPass_2 : decode cX4_getPass 2 = .ok (.getfield 117, 3) := by decide +kernel
theorem dX4_getPass_5 : decode cX4_getPass 5 = .ok (.ifCond .eq 7, 3) := by decide +kernel
theorem dX4_getPass_8 : decode cX4_getPass 8 = .ok (.iconst 0, 1) := by decide +kernel
theorem dX4_getPass_9 : decode cX4_getPass 9 = .ok (.goto 4, 3) := by decide +kernel
theorem dX4_getPass_12 : decode cX4_getPass 12 = .ok (.iconst 1, 1) := by decide +kernel
theorem dX4_getPass_13 : decode cX4_getPass 13 = .ok (.putfield 35, 3) := by decide +kernel
theorem dX4_getPass_16 : decode cX4_getPass 16 = .ok (.aload_n 0, 1) := by decide +kernel
theorem dX4_getPass_17 : decode cX4_getPass 17 = .ok (.getfield 35, 3) := by decide +kernel
theorem dX4_getPass_20 : decode cX4_getPass 20 = .ok (.ifCond .le 7, 3) := by decide +kernel
theorem dX4_getPass_23 : decode cX4_getPass 23 = .ok (.iconst 0, 1) := by decide +kernel
theorem dX4_getPass_24 : decode cX4_getPass 24 = .ok (.goto 7, 3) := by decide +kernel
theorem dX4_getPass_27 : decode cX4_getPass 27 = .ok (.aload_n 0, 1) := by decide +kernel
theorem dX4_getPass_28 : decode cX4_getPass 28 = .ok (.invokevirtual 126, 3) := by decide +kernel
theorem dX4_getPass_31 : decode cX4_getPass 31 = .ok (.ireturn, 1) := by decide +kernel
set_option maxRecDepth 20000 in
theorem ggX4_getGolomb_X4_readBypass : GoodIn wsX4_getGolomb wsX4_readBypass := goodIn_r _ [10, 11, 12, 13, 14, 15, 9, 16, 17, 18, 19, 20, 21, 22, 23, 24, 25, 26, 27, 28, 29, 30, 31, 32, 33, 34, 35, 36, 37, 38, 39, 40] (by decide +kernel) (by decide +kernel)
set_option maxRecDepth 20000 in
theorem gX4_getGolomb_X4_readBypass : GoodIn wsX4_getGolomb (wsV RX4 126 RX4 yX4_readBypass wsX4_readBypass) := goodIn_app (goodIn_of _ (by decide +kernel)) ggX4_getGolomb_X4_readBypass
theorem dX4_getGolomb_0 : decode cX4_getGolomb 0 = .ok (.aload_n 0, 1) := by decide +kernel
theorem dX4_getGolomb_1 : decode cX4_getGolomb 1 = .ok (.iload_n 1, 1) := by decide +kernel
theorem dX4_getGolomb_2 : decode cX4_getGolomb 2 = .ok (.ifCond .lt 8, 3) := by decide +kernel
