theorem dX4_settle_67 : decode cX4_settle 67 = .ok (.isub, 1) := by decide +kernel
theorem dX4_settle_68 : decode cX4_settle 68 = .ok (.goto 11, 3) := by decide +kernel
theorem dX4_settle_71 : decode cX4_settle 71 = .ok (.aload_n 0, 1) := by decide +kernel
theorem dX4_settle_72 : decode cX4_settle 72 = .ok (.getfield 53, 3) := by decide +kernel
theorem dX4_settle_75 : decode cX4_settle 75 = .ok (.iconst 2, 1) := by decide +kernel
theorem dX4_settle_76 : decode cX4_settle 76 = .ok (.iload_n 1, 1) := by decide +kernel
theorem dX4_settle_77 : decode cX4_settle 77 = .ok (.imul, 1) := by decide +kernel
theorem dX4_settle_78 : decode cX4_settle 78 = .ok (.isub, 1) := by decide +kernel
theorem dX4_settle_79 : decode cX4_settle 79 = .ok (.putfield 53, 3) := by decide +kernel
theorem dX4_settle_82 : decode cX4_settle 82 = .ok (.aload_n 0, 1) := by decide +kernel
theorem dX4_settle_83 : decode cX4_settle 83 = .ok (.dup, 1) := by decide +kernel
theorem dX4_settle_84 : decode cX4_settle 84 = .ok (.getfield 59, 3) := by decide +kernel
theorem dX4_settle_87 : decode cX4_settle 87 = .ok (.iconst 1, 1) := by decide +kernel
theorem dX4_settle_88 : decode cX4_settle 88 = .ok (.iadd, 1) := by decide +kernel
theorem dX4_settle_89 : decode cX4_settle 89 = .ok (.putfield 59, 3) := by decide +kernel
theorem dX4_settle_92 : decode cX4_settle 92 = .ok (.return_, 1) := by decide +kernel
set_option maxRecDepth 20000 in
theorem ggX4_shift_X4_settle : GoodIn wsX4_shift wsX4_settle := goodIn_r _ [7, 2, 8, 9, 10, 11, 12, 13, 14, 15, 16, 17, 18, 19, 20, 21, 22, 23, 24, 25, 26, 27, 28, 29, 30] (by decide +kernel) (by decide +kernel)
set_option maxRecDepth 20000 in
theorem gX4_shift_X4_settle : GoodIn wsX4_shift (wsV RX4 72 RX4 yX4_settle wsX4_settle) := goodIn_app (goodIn_of _ (by decide +kernel)) ggX4_shift_X4_settle
theorem dX4_shift_0 : decode cX4_shift 0 = .ok (.aload_n 0, 1) := by decide +kernel
theorem dX4_shift_1 : decode cX4_shift 1 = .ok (.getfield 50, 3) := by decide +kernel
theorem dX4_shift_4 : decode cX4_shift 4 = .ok (.sipush 256, 3) := by decide +kernel
theorem dX4_shift_7 : decode cX4_shift 7 = .ok (.if_icmp .ge 33, 3) := by decide +kernel
theorem dX4_shift_10 : decode cX4_shift 10 = .ok (.aload_n 0, 1) := by decide +kernel
theorem dX4_shift_11 : decode cX4_shift 11 = .ok (.sipush 256, 3) := by decide +kernel
theorem dX4_shift_14 : decode cX4_shift 14 = .ok (.invokevirtual 72, 3) := by decide +kernel
theorem dX4_shift_17 : decode cX4_shift 17 = .ok (.aload_n 0, 1) := by decide +kernel
theorem dX4_shift_18 : decode cX4_shift 18 = .ok (.iconst 2, 1) := by decide +kernel
theorem dX4_shift_19 : decode cX4_shift 19 = .ok (.aload_n 0, 1) := by decide +kernel
theorem dX4_shift_20 : decode cX4_shift 20 = .ok (.getfield 50, 3) := by decide +kernel
theorem dX4_shift_23 : decode cX4_shift 23 = .ok (.imul, 1) := by decide +kernel
theorem dX4_shift_24 : decode cX4_shift 24 = .ok (.putfield 50, 3) := by decide +kernel
theorem dX4_shift_27 : decode cX4_shift 27 = .ok (.aload_n 0, 1) := by decide +kernel
theorem dX4_shift_28 : decode cX4_shift 28 = .ok (.iconst 2, 1) := by decide +kernel
theorem dX4_shift_29 : decode cX4_shift 29 = .ok (.aload_n 0, 1) := by decide +kernel
theorem dX4_shift_30 : decode cX4_shift 30 = .ok (.getfield 53, 3) := by decide +kernel
theorem dX4_shift_33 : decode cX4_shift 33 = .ok (.imul, 1) := by decide +kernel
theorem dX4_shift_34 : decode cX4_shift 34 = .ok (.putfield 53, 3) := by decide +kernel
theorem dX4_shift_37 : decode cX4_shift 37 = .ok (.goto (-37), 3) := by decide +kernel
theorem dX4_shift_40 : decode cX4_shift 40 = .ok (.return_, 1) := by decide +kernel
set_option maxRecDepth 20000 in
theorem ggX4_decide_X4_add : GoodIn wsX4_decide wsX4_add := goodIn_r _ [10, 11, 12, 13, 28, 29, 30, 31, 32, 33, 34, 35, 36, 37, 38, 39, 40, 41, 42, 43, 44, 45, 46, 47, 48] (by decide +kernel) (by decide +kernel)
set_option maxRecDepth 20000 in
theorem gX4_decide_X4_add : GoodIn wsX4_decide (wsV RX4 75 RX4 yX4_add wsX4_add) := goodIn_app (goodIn_of _ (by decide +kernel)) ggX4_decide_X4_add
set_option maxRecDepth 20000 in
theorem ggX4_decide_X4_learn : GoodIn wsX4_decide wsX4_learn := goodIn_r _ [17, 2, 4, 18, 28, 29, 30, 31, 32, 33, 34, 35, 36, 37, 38, 39, 40, 41, 42, 43, 44, 45, 46, 47, 48] (by decide +kernel) (by decide +kernel)
set_option maxRecDepth 20000 in
theorem gX4_decide_X4_learn : GoodIn wsX4_decide (wsV RX4 78 RX4 yX4_learn wsX4_learn) := goodIn_app (goodIn_of _ (by decide +kernel)) ggX4_decide_X4_learn
set_option maxRecDepth 20000 in
theorem ggX4_decide_X4_shift : GoodIn wsX4_decide wsX4_shift := goodIn_r _ [22, 3, 13, 23, 24, 25, 9, 26, 27, 11, 28, 29, 30, 31, 32, 33, 34, 35, 36, 37, 38, 39, 40, 41, 42, 43, 44, 45, 46, 47, 48] (by decide +kernel) (by decide +kernel)
set_option maxRecDepth 20000 in
theorem gX4_decide_X4_shift : GoodIn wsX4_decide (wsV RX4 82 RX4 yX4_shift wsX4_shift) := goodIn_app (goodIn_of _ (by decide +kernel)) ggX4_decide_X4_shift
theorem dX4_decide_0 : decode cX4_decide 0 = .ok (.aload_n 0, 1) := by decide +kernel
theorem dX4_decide_1 : decode cX4_decide 1 = .ok (.getfield 7, 3) := by decide +kernel
theorem dX4_decide_4 : decode cX4_decide 4 = .ok (.iconst 4, 1) := by decide +kernel
theorem dX4_decide_5 : decode cX4_decide 5 = .ok (.aload_n 0, 1) := by decide +kernel
theorem dX4_decide_6 : decode cX4_decide 6 = .ok (.getfield 16, 3) := by decide +kernel
theorem dX4_decide_9 : decode cX4_decide 9 = .ok (.bipush 32, 2) := by decide +kernel
theorem dX4_decide_11 : decode cX4_decide 11 = .ok (.iload_n 1, 1) := by decide +kernel
theorem dX4_decide_12 : decode cX4_decide 12 = .ok (.iadd, 1) := by decide +kernel
theorem dX4_decide_13 : decode cX4_decide 13 = .ok (.iaload, 1) := by decide +kernel
theorem dX4_decide_14 : decode cX4_decide 14 = .ok (.imul, 1) := by decide +kernel
theorem dX4_decide_15 : decode cX4_decide 15 = .ok (.aload_n 0, 1) := by decide +kernel
theorem dX4_decide_16 : decode cX4_decide 16 = .ok (.getfield 50, 3) := by decide +kernel
theorem dX4_decide_19 : decode cX4_decide 19 = .ok (.bipush 64, 2) := by decide +kernel
theorem dX4_decide_21 : decode cX4_decide 21 = .ok (.idiv, 1) := by decide +kernel
theorem dX4_decide_22 : decode cX4_decide 22 = .ok (.iconst 4, 1) := by decide +kernel
theorem dX4_decide_23 : decode cX4_decide 23 = .ok (.irem, 1) := by decide +kernel
theorem dX4_decide_24 : decode cX4_decide 24 = .ok (.iadd, 1) := by decide +kernel
theorem dX4_decide_25 : decode cX4_decide 25 = .ok (.iaload, 1) := by decide +kernel
theorem dX4_decide_26 : decode cX4_decide 26 = .ok (.istore_n 3, 1) := by decide +kernel
theorem dX4_decide_27 : decode cX4_decide 27 = .ok (.aload_n 0, 1) := by decide +kernel
theorem dX4_decide_28 : decode cX4_decide 28 = .ok (.aload_n 0, 1) := by decide +kernel
theorem dX4_decide_29 : decode cX4_decide 29 = .ok (.getfield 50, 3) := by decide +kernel
theorem dX4_decide_32 : decode cX4_decide 32 = .ok (.iload_n 3, 1) := by decide +kernel
theorem dX4_decide_33 : decode cX4_decide 33 = .ok (.isub, 1) := by decide +kernel
theorem dX4_decide_34 : decode cX4_decide 34 = .ok (.putfield 50, 3) := by decide +kernel
theorem dX4_decide_37 : decode cX4_decide 37 = .ok (.aload_n 0, 1) := by decide +kernel
theorem dX4_decide_38 : decode cX4_decide 38 = .ok (.getfield 19, 3) := by decide +kernel
theorem dX4_decide_41 : decode cX4_decide 41 = .ok (.bipush 32, 2) := by decide +kernel
theorem dX4_decide_43 : decode cX4_decide 43 = .ok (.iload_n 1, 1) := by decide +kernel
theorem dX4_decide_44 : decode cX4_decide 44 = .ok (.iadd, 1) := by decide +kernel
theorem dX4_decide_45 : decode cX4_decide 45 = .ok (.iaload, 1) := by decide +kernel
theorem dX4_decide_46 : decode cX4_decide 46 = .ok (.iload_n 2, 1) := by decide +kernel
theorem dX4_decide_47 : decode cX4_decide 47 = .ok (.if_icmp .ne 7, 3) := by decide +kernel
theorem dX4_decide_50 : decode cX4_decide 50 = .ok (.iconst 1, 1) := by decide +kernel
theorem dX4_decide_51 : decode cX4_decide 51 = .ok (.goto 4, 3) := by decide +kernel
theorem dX4_decide_54 : decode cX4_decide 54 = .ok (.iconst 0, 1) := by decide +kernel
theorem dX4_decide_55 : decode cX4_decide 55 = .ok (.istore 4, 2) := by decide +kernel
theorem dX4_decide_57 : decode cX4_decide 57 = .ok (.iload 4, 2) := by decide +kernel
theorem dX4_decide_59 : decode cX4_decide 59 = .ok (.ifCond .ne 16, 3) := by decide +kernel
theorem dX4_decide_62 : decode cX4_decide 62 = .ok (.aload_n 0, 1) := by decide +kernel
theorem dX4_decide_63 : decode cX4_decide 63 = .ok (.aload_n 0, 1) := by decide +kernel
theorem dX4_decide_64 : decode cX4_decide 64 = .ok (.getfield 50, 3) := by decide +kernel
theorem dX4_decide_67 : decode cX4_decide 67 = .ok (.invokevirtual 75, 3) := by decide +kernel
theorem dX4_decide_70 : decode cX4_decide 70 = .ok (.aload_n 0, 1) := by decide +kernel
theorem dX4_decide_71 : decode cX4_decide 71 = .ok (.iload_n 3, 1) := by decide +kernel
theorem dX4_decide_72 : decode cX4_decide 72 = .ok (.putfield 50, 3) := by decide +kernel
theorem dX4_decide_75 : decode cX4_decide 75 = .ok (.aload_n 0, 1) := by decide +kernel
theorem dX4_decide_76 : decode cX4_decide 76 = .ok (.bipush 32, 2) := by decide +kernel
theorem dX4_decide_78 : decode cX4_decide 78 = .ok (.iload_n 1, 1) := by decide +kernel
theorem dX4_decide_79 : decode cX4_decide 79 = .ok (.iadd, 1) := by decide +kernel
theorem dX4_decide_80 : decode cX4_decide 80 = .ok (.iload 4, 2) := by decide +kernel
theorem dX4_decide_82 : decode cX4_decide 82 = .ok (.invokevirtual 78, 3) := by decide +kernel
theorem dX4_decide_85 : decode cX4_decide 85 = .ok (.aload_n 0, 1) := by decide +kernel
theorem dX4_decide_86 : decode cX4_decide 86 = .ok (.invokevirtual 82, 3) := by decide +kernel
theorem dX4_decide_89 : decode cX4_decide 89 = .ok (.aload_n 0, 1) := by decide +kernel
theorem dX4_decide_90 : decode cX4_decide 90 = .ok (.dup, 1) := by decide +kernel
theorem dX4_decide_91 : decode cX4_decide 91 = .ok (.getfield 62, 3) := by decide +kernel
theorem dX4_decide_94 : decode cX4_decide 94 = .ok (.iconst 1, 1) := by decide +kernel
theorem dX4_decide_95 : decode cX4_decide 95 = .ok (.iadd, 1) := by decide +kernel
theorem dX4_decide_96 : decode cX4_decide 96 = .ok (.putfield 62, 3) := by decide +kernel
theorem dX4_decide_99 : decode cX4_decide 99 = .ok (.return_, 1) := by decide +kernel
set_option maxRecDepth 20000 in
theorem ggX4_bypass_X4_add : GoodIn wsX4_bypass wsX4_add := goodIn_r _ [9, 2, 10, 1, 16, 17, 18, 19, 20, 21, 22, 23, 24, 25, 26, 27, 28, 29, 30, 31, 32, 33, 34, 35, 36] (by decide +kernel) (by decide +kernel)
set_option maxRecDepth 20000 in
theorem gX4_bypass_X4_add : GoodIn wsX4_bypass (wsV RX4 75 RX4 yX4_add wsX4_add) := goodIn_app (goodIn_of _ (by decide +kernel)) ggX4_bypass_X4_add
set_option maxRecDepth 20000 in
theorem ggX4_bypass_X4_settle : GoodIn wsX4_bypass wsX4_settle := goodIn_r _ [14, 1, 15, 2, 16, 17, 18, 19, 20, 21, 22, 23, 24, 25, 26, 27, 28, 29, 30, 31, 32, 33, 34, 35, 36] (by decide +kernel) (by decide +kernel)
set_option maxRecDepth 20000 in
theorem gX4_bypass_X4_settle : GoodIn wsX4_bypass (wsV RX4 72 RX4 yX4_settle wsX4_settle) := goodIn_app (goodIn_of _ (by decide +kernel)) ggX4_bypass_X4_settle
theorem dX4_bypass_0 : decode cX4_bypass 0 = .ok (.aload_n 0, 1) := by decide +kernel
theorem dX4_bypass_1 : decode cX4_bypass 1 = .ok (.iconst 2, 1) := by decide +kernel
theorem dX4_bypass_2 : decode cX4_bypass 2 = .ok (.aload_n 0, 1) := by decide +kernel
theorem dX4_bypass_3 : decode cX4_bypass 3 = .ok (.getfield 53, 3) := by decide +kernel
theorem dX4_bypass_6 : decode cX4_bypass 6 = .ok (.imul, 1) := by decide +kernel
theorem dX4_bypass_7 : decode cX4_bypass 7 = .ok (.putfield 53, 3) := by decide +kernel
theorem dX4_bypass_10 : decode cX4_bypass 10 = .ok (.aload_n 0, 1) := by decide +kernel
theorem dX4_bypass_11 : decode cX4_bypass 11 = .ok (.dup, 1) := by decide +kernel
theorem dX4_bypass_12 : decode cX4_bypass 12 = .ok (.getfield 59, 3) := by decide +kernel
theorem dX4_bypass_15 : decode cX4_bypass 15 = .ok (.iconst 1, 1) := by decide +kernel
theorem dX4_bypass_16 : decode cX4_bypass 16 = .ok (.iadd, 1) := by decide +kernel
theorem dX4_bypass_17 : decode cX4_bypass 17 = .ok (.putfield 59, 3) := by decide +kernel
theorem dX4_bypass_20 : decode cX4_bypass 20 = .ok (.iload_n 1, 1) := by decide +kernel
theorem dX4_bypass_21 : decode cX4_bypass 21 = .ok (.iconst 1, 1) := by decide +kernel
theorem dX4_bypass_22 : decode cX4_bypass 22 = .ok (.if_icmp .ne 11, 3) := by decide +kernel
theorem dX4_bypass_25 : decode cX4_bypass 25 = .ok (.aload_n 0, 1) := by decide +kernel
theorem dX4_bypass_26 : decode cX4_bypass 26 = .ok (.aload_n 0, 1) := by decide +kernel
theorem dX4_bypass_27 : decode cX4_bypass 27 = .ok (.getfield 50, 3) := by decide +kernel
theorem dX4_bypass_30 : decode cX4_bypass 30 = .ok (.invokevirtual 75, 3) := by decide +kernel
theorem dX4_bypass_33 : decode cX4_bypass 33 = .ok (.aload_n 0, 1) := by decide +kernel
theorem dX4_bypass_34 : decode cX4_bypass 34 = .ok (.dup, 1) := by decide +kernel
theorem dX4_bypass_35 : decode cX4_bypass 35 = .ok (.getfield 59, 3) := by decide +kernel
theorem dX4_bypass_38 : decode cX4_bypass 38 = .ok (.iconst 1, 1) := by decide +kernel
theorem dX4_bypass_39 : decode cX4_bypass 39 = .ok (.isub, 1) := by decide +kernel
theorem dX4_bypass_40 : decode cX4_bypass 40 = .ok (.putfield 59, 3) := by decide +kernel
theorem dX4_bypass_43 : decode cX4_bypass 43 = .ok (.aload_n 0, 1) := by decide +kernel
theorem dX4_bypass_44 : decode cX4_bypass 44 = .ok (.sipush 512, 3) := by decide +kernel
theorem dX4_bypass_47 : decode cX4_bypass 47 = .ok (.invokevirtual 72, 3) := by decide +kernel
theorem dX4_bypass_50 : decode cX4_bypass 50 = .ok (.aload_n 0, 1) := by decide +kernel
theorem dX4_bypass_51 : decode cX4_bypass 51 = .ok (.dup, 1) := by decide +kernel
theorem dX4_bypass_52 : decode cX4_bypass 52 = .ok (.getfield 62, 3) := by decide +kernel
theorem dX4_bypass_55 : decode cX4_bypass 55 = .ok (.iconst 1, 1) := by decide +kernel
theorem dX4_bypass_56 : decode cX4_bypass 56 = .ok (.iadd, 1) := by decide +kernel
theorem dX4_bypass_57 : decode cX4_bypass 57 = .ok (.putfield 62, 3) := by decide +kernel
theorem dX4_bypass_60 : decode cX4_bypass 60 = .ok (.return_, 1) := by decide +kernel
theorem dX4_noRoom_0 : decode cX4_noRoom 0 = .ok (.aload_n 0, 1) := by decide +kernel
theorem dX4_noRoom_1 : decode cX4_noRoom 1 = .ok (.getfield 46, 3) := by decide +kernel
theorem dX4_noRoom_4 : decode cX4_noRoom 4 = .ok (.ifCond .eq 15, 3) := by decide +kernel
theorem dX4_noRoom_7 : decode cX4_noRoom 7 = .ok (.aload_n 0, 1) := by decide +kernel
theorem dX4_noRoom_8 : decode cX4_noRoom 8 = .ok (.getfield 62, 3) := by decide +kernel
theorem dX4_noRoom_11 : decode cX4_noRoom 11 = .ok (.iload_n 1, 1) := by decide +kernel
theorem dX4_noRoom_12 : decode cX4_noRoom 12 = .ok (.iadd, 1) := by decide +kernel
theorem dX4_noRoom_13 : decode cX4_noRoom 13 = .ok (.sipush 400, 3) := by decide +kernel
theorem dX4_noRoom_16 : decode cX4_noRoom 16 = .ok (.if_icmp .le 7, 3) := by decide +kernel
theorem dX4_noRoom_19 : decode cX4_noRoom 19 = .ok (.iconst 1, 1) := by decide +kernel
theorem dX4_noRoom_20 : decode cX4_noRoom 20 = .ok (.goto 4, 3) := by decide +kernel
theorem dX4_noRoom_23 : decode cX4_noRoom 23 = .ok (.iconst 0, 1) := by decide +kernel
theorem dX4_noRoom_24 : decode cX4_noRoom 24 = .ok (.ireturn, 1) := by decide +kernel
set_option maxRecDepth 20000 in
theorem ggX4_put_X4_noContext : GoodIn wsX4_put wsX4_noContext := goodIn_r _ [5] (by decide +kernel) (by decide +kernel)
set_option maxRecDepth 20000 in
theorem gX4_put_X4_noContext : GoodIn wsX4_put (va_wsS RX4 39 yX4_noContext wsX4_noContext) := goodIn_app (goodIn_of _ (by decide +kernel)) ggX4_put_X4_noContext
set_option maxRecDepth 20000 in
theorem ggX4_put_X4_noBin : GoodIn wsX4_put wsX4_noBin := goodIn_r _ [8] (by decide +kernel) (by decide +kernel)
set_option maxRecDepth 20000 in
theorem gX4_put_X4_noBin : GoodIn wsX4_put (va_wsS RX4 43 yX4_noBin wsX4_noBin) := goodIn_app (goodIn_of _ (by decide +kernel)) ggX4_put_X4_noBin
set_option maxRecDepth 20000 in
theorem ggX4_put_X4_noRoom : GoodIn wsX4_put wsX4_noRoom := goodIn_r _ [12, 13, 14, 44, 45, 46, 47, 48, 49, 50, 51, 52, 53, 54, 55, 56, 57, 58, 59, 60, 61, 62, 63, 64] (by decide +kernel) (by decide +kernel)
set_option maxRecDepth 20000 in
theorem gX4_put_X4_noRoom : GoodIn wsX4_put (wsV RX4 85 RX4 yX4_noRoom wsX4_noRoom) := goodIn_app (goodIn_of _ (by decide +kernel)) ggX4_put_X4_noRoom
set_option maxRecDepth 20000 in
theorem ggX4_put_X4_decide : GoodIn wsX4_put wsX4_decide := goodIn_r _ [18, 19, 20, 21, 22, 14, 23, 24, 25, 4, 26, 27, 28, 29, 30, 31, 32, 33, 34, 35, 36, 37, 38, 39, 40, 41, 42, 43, 44, 45, 46, 47, 48, 49, 50, 51, 52, 53, 54, 55, 56, 57, 58, 59, 60, 61, 62, 63, 64] (by decide +kernel) (by decide +kernel)
set_option maxRecDepth 20000 in
theorem gX4_put_X4_decide : GoodIn wsX4_put (wsV RX4 88 RX4 yX4_decide wsX4_decide) := goodIn_app (goodIn_of _ (by decide +kernel)) ggX4_put_X4_decide
theorem dX4_put_0 : decode cX4_put 0 = .ok (.aload_n 0, 1) := by decide +kernel
theorem dX4_put_1 : decode cX4_put 1 = .ok (.iload_n 1, 1) := by decide +kernel
theorem dX4_put_2 : decode cX4_put 2 = .ok (.invokestatic 39, 3) := by decide +kernel
theorem dX4_put_5 : decode cX4_put 5 = .ok (.ifCond .eq 7, 3) := by decide +kernel
theorem dX4_put_8 : decode cX4_put 8 = .ok (.iconst 1, 1) := by decide +kernel
theorem dX4_put_9 : decode cX4_put 9 = .ok (.goto 27, 3) := by decide +kernel
theorem dX4_put_12 : decode cX4_put 12 = .ok (.iload_n 2, 1) := by decide +kernel
theorem dX4_put_13 : decode cX4_put 13 = .ok (.invokestatic 43, 3) := by decide +kernel
theorem dX4_put_16 : decode cX4_put 16 = .ok (.ifCond .eq 7, 3) := by decide +kernel
theorem dX4_put_19 : decode cX4_put 19 = .ok (.iconst 2, 1) := by decide +kernel
theorem dX4_put_20 : decode cX4_put 20 = .ok (.goto 16, 3) := by decide +kernel
theorem dX4_put_23 : decode cX4_put 23 = .ok (.aload_n 0, 1) := by decide +kernel
theorem dX4_put_24 : decode cX4_put 24 = .ok (.iconst 1, 1) := by decide +kernel
theorem dX4_put_25 : decode cX4_put 25 = .ok (.invokevirtual 85, 3) := by decide +kernel
theorem dX4_put_28 : decode cX4_put 28 = .ok (.ifCond .eq 7, 3) := by decide +kernel
theorem dX4_put_31 : decode cX4_put 31 = .ok (.iconst 3, 1) := by decide +kernel
theorem dX4_put_32 : decode cX4_put 32 = .ok (.goto 4, 3) := by decide +kernel
theorem dX4_put_35 : decode cX4_put 35 = .ok (.iconst 0, 1) := by decide +kernel
theorem dX4_put_36 : decode cX4_put 36 = .ok (.putfield 35, 3) := by decide +kernel
theorem dX4_put_39 : decode cX4_put 39 = .ok (.aload_n 0, 1) := by decide +kernel
theorem dX4_put_40 : decode cX4_put 40 = .ok (.getfield 35, 3) := by decide +kernel
theorem dX4_put_43 : decode cX4_put 43 = .ok (.ifCond .ne 9, 3) := by decide +kernel
theorem dX4_put_46 : decode cX4_put 46 = .ok (.aload_n 0, 1) := by decide +kernel
theorem dX4_put_47 : decode cX4_put 47 = .ok (.iload_n 1, 1) := by decide +kernel
theorem dX4_put_48 : decode cX4_put 48 = .ok (.iload_n 2, 1) := by decide +kernel
theorem dX4_put_49 : decode cX4_put 49 = .ok (.invokevirtual 88, 3) := by decide +kernel
theorem dX4_put_52 : decode cX4_put 52 = .ok (.return_, 1) := by decide +kernel
set_option maxRecDepth 20000 in
theorem ggX4_pass_X4_noBin : GoodIn wsX4_pass wsX4_noBin := goodIn_r _ [5] (by decide +kernel) (by decide +kernel)
set_option maxRecDepth 20000 in
theorem gX4_pass_X4_noBin : GoodIn wsX4_pass (va_wsS RX4 43 yX4_noBin wsX4_noBin) := goodIn_app (goodIn_of _ (by decide +kernel)) ggX4_pass_X4_noBin
set_option maxRecDepth 20000 in
theorem ggX4_pass_X4_noRoom : GoodIn wsX4_pass wsX4_noRoom := goodIn_r _ [9, 10, 11, 29, 30, 31, 32, 33, 34, 35, 36, 37, 38, 39, 40, 41, 42, 43, 44, 45, 46, 47, 48, 49] (by decide +kernel) (by decide +kernel)
set_option maxRecDepth 20000 in
theorem gX4_pass_X4_noRoom : GoodIn wsX4_pass (wsV RX4 85 RX4 yX4_noRoom wsX4_noRoom) := goodIn_app (goodIn_of _ (by decide +kernel)) ggX4_pass_X4_noRoom
set_option maxRecDepth 20000 in
theorem ggX4_pass_X4_bypass : GoodIn wsX4_pass wsX4_bypass := goodIn_r _ [15, 16, 17, 18, 11, 19, 20, 21, 4, 22, 23, 24, 25, 26, 27, 28, 29, 30, 31, 32, 33, 34, 35, 36, 37, 38, 39, 40, 41, 42, 43, 44, 45, 46, 47, 48, 49] (by decide +kernel) (by decide +kernel)
set_option maxRecDepth 20000 in
theorem gX4_pass_X4_bypass : GoodIn wsX4_pass (wsV RX4 92 RX4 yX4_bypass wsX4_bypass) := goodIn_app (goodIn_of _ (by decide +kernel)) ggX4_pass_X4_bypass
theorem dX4_pass_0 : decode cX4_pass 0 = .ok (.aload_n 0, 1) := by decide +kernel
theorem dX4_pass_1 : decode cX4_pass 1 = .ok (.iload_n 1, 1) := by decide +kernel
theorem dX4_pass_2 : decode cX4_pass 2 = .ok (.invokestatic 43, 3) := by decide +kernel
theorem dX4_pass_5 : decode cX4_pass 5 = .ok (.ifCond .eq 7, 3) := by decide +kernel
theorem dX4_pass_8 : decode cX4_pass 8 = .ok (.iconst 1, 1) := by decide +kernel
theorem dX4_pass_9 : decode cX4_pass 9 = .ok (.goto 16, 3) := by decide +kernel
theorem dX4_pass_12 : decode cX4_pass 12 = .ok (.aload_n 0, 1) := by decide +kernel
theorem dX4_pass_13 : decode cX4_pass 13 = .ok (.iconst 1, 1) := by decide +kernel
theorem dX4_pass_14 : decode cX4_pass 14 = .ok (.invokevirtual 85, 3) := by decide +kernel
theorem dX4_pass_17 : decode cX4_pass 17 = .ok (.ifCond .eq 7, 3) := by decide +kernel
theorem dX4_pass_20 : decode cX4_pass 20 = .ok (.iconst 2, 1) := by decide +kernel
theorem dX4_pass_21 : decode cX4_pass 21 = .ok (.goto 4, 3) := by decide +kernel
theorem dX4_pass_24 : decode cX4_pass 24 = .ok (.iconst 0, 1) := by decide +kernel
theorem dX4_pass_25 : decode cX4_pass 25 = .ok (.putfield 35, 3) := by decide +kernel
theorem dX4_pass_28 : decode cX4_pass 28 = .ok (.aload_n 0, 1) := by decide +kernel
theorem dX4_pass_29 : decode cX4_pass 29 = .ok (.getfield 35, 3) := by decide +kernel
theorem dX4_pass_32 : decode cX4_pass 32 = .ok (.ifCond .ne 8, 3) := by decide +kernel
theorem dX4_pass_35 : decode cX4_pass 35 = .ok (.aload_n 0, 1) := by decide +kernel
theorem dX4_pass_36 : decode cX4_pass 36 = .ok (.iload_n 1, 1) := by decide +kernel
theorem dX4_pass_37 : decode cX4_pass 37 = .ok (.invokevirtual 92, 3) := by decide +kernel
theorem dX4_pass_40 : decode cX4_pass 40 = .ok (.return_, 1) := by decide +kernel
theorem dX4_lengthOf_0 : decode cX4_lengthOf 0 = .ok (.iconst 0, 1) := by decide +kernel
theorem dX4_lengthOf_1 : decode cX4_lengthOf 1 = .ok (.istore_n 1, 1) := by decide +kernel
theorem dX4_lengthOf_2 : decode cX4_lengthOf 2 = .ok (.iload_n 0, 1) := by decide +kernel
theorem dX4_lengthOf_3 : decode cX4_lengthOf 3 = .ok (.iload_n 1, 1) := by decide +kernel
theorem dX4_lengthOf_4 : decode cX4_lengthOf 4 = .ok (.ishr, 1) := by decide +kernel
theorem dX4_lengthOf_5 : decode cX4_lengthOf 5 = .ok (.iconst 1, 1) := by decide +kernel
theorem dX4_lengthOf_6 : decode cX4_lengthOf 6 = .ok (.if_icmp .le 9, 3) := by decide +kernel
theorem dX4_lengthOf_9 : decode cX4_lengthOf 9 = .ok (.iinc 1 1, 3) := by decide +kernel
theorem dX4_lengthOf_12 : decode cX4_lengthOf 12 = .ok (.goto (-10), 3) := by decide +kernel
theorem dX4_lengthOf_15 : decode cX4_lengthOf 15 = .ok (.iload_n 1, 1) := by decide +kernel
theorem dX4_lengthOf_16 : decode cX4_lengthOf 16 = .ok (.ireturn, 1) := by decide +kernel
set_option maxRecDepth 20000 in
theorem ggX4_golomb_X4_lengthOf : GoodIn wsX4_golomb wsX4_lengthOf := goodIn_r _ [7] (by decide +kernel) (by decide +kernel)
set_option maxRecDepth 20000 in
theorem gX4_golomb_X4_lengthOf : GoodIn wsX4_golomb (va_wsS RX4 97 yX4_lengthOf wsX4_lengthOf) := goodIn_app (goodIn_of _ (by decide +kernel)) ggX4_golomb_X4_lengthOf
set_option maxRecDepth 20000 in
theorem ggX4_golomb_X4_noRoom : GoodIn wsX4_golomb wsX4_noRoom := goodIn_r _ [11, 12, 13, 31, 32, 33, 34, 35, 36, 37, 38, 39, 40, 41, 42, 43, 44, 45, 46, 47, 48, 49, 50, 51] (by decide +kernel) (by decide +kernel)
set_option maxRecDepth 20000 in
theorem gX4_golomb_X4_noRoom : GoodIn wsX4_golomb (wsV RX4 85 RX4 yX4_noRoom wsX4_noRoom) := goodIn_app (goodIn_of _ (by decide +kernel)) ggX4_golomb_X4_noRoom
set_option maxRecDepth 20000 in
theorem ggX4_golomb_X4_bypass : GoodIn wsX4_golomb wsX4_bypass := goodIn_r _ [17, 18, 19, 20, 13, 21, 22, 23, 6, 24, 25, 26, 27, 28, 29, 30, 31, 32, 33, 34, 35, 36, 37, 38, 39, 40, 41, 42, 43, 44, 45, 46, 47, 48, 49, 50, 51] (by decide +kernel) (by decide +kernel)
set_option maxRecDepth 20000 in
theorem gX4_golomb_X4_bypass : GoodIn wsX4_golomb (wsV RX4 92 RX4 yX4_bypass wsX4_bypass) := goodIn_app (goodIn_of _ (by decide +kernel)) ggX4_golomb_X4_bypass
theorem dX4_golomb_0 : decode cX4_golomb 0 = .ok (.iload_n 2, 1) := by decide +kernel
theorem dX4_golomb_1 : decode cX4_golomb 1 = .ok (.ifCond .eq 24, 3) := by decide +kernel
theorem dX4_golomb_4 : decode cX4_golomb 4 = .ok (.iload_n 3, 1) := by decide +kernel
theorem dX4_golomb_5 : decode cX4_golomb 5 = .ok (.sipush (-32767), 3) := by decide +kernel
theorem dX4_golomb_8 : decode cX4_golomb 8 = .ok (.if_icmp .lt 9, 3) := by decide +kernel
theorem dX4_golomb_11 : decode cX4_golomb 11 = .ok (.iload_n 3, 1) := by decide +kernel
theorem dX4_golomb_12 : decode cX4_golomb 12 = .ok (.ldc 95, 2) := by decide +kernel
theorem dX4_golomb_14 : decode cX4_golomb 14 = .ok (.if_icmp .le 7, 3) := by decide +kernel
theorem dX4_golomb_17 : decode cX4_golomb 17 = .ok (.iconst 1, 1) := by decide +kernel
theorem dX4_golomb_18 : decode cX4_golomb 18 = .ok (.goto 22, 3) := by decide +kernel
theorem dX4_golomb_21 : decode cX4_golomb 21 = .ok (.iconst 0, 1) := by decide +kernel
theorem dX4_golomb_22 : decode cX4_golomb 22 = .ok (.goto 18, 3) := by decide +kernel
theorem dX4_golomb_25 : decode cX4_golomb 25 = .ok (.iload_n 3, 1) := by decide +kernel
theorem dX4_golomb_26 : decode cX4_golomb 26 = .ok (.ifCond .lt 9, 3) := by decide +kernel
theorem dX4_golomb_29 : decode cX4_golomb 29 = .ok (.iload_n 3, 1) := by decide +kernel
theorem dX4_golomb_30 : decode cX4_golomb 30 = .ok (.ldc 96, 2) := by decide +kernel
theorem dX4_golomb_32 : decode cX4_golomb 32 = .ok (.if_icmp .le 7, 3) := by decide +kernel
theorem dX4_golomb_35 : decode cX4_golomb 35 = .ok (.iconst 1, 1) := by decide +kernel
theorem dX4_golomb_36 : decode cX4_golomb 36 = .ok (.goto 4, 3) := by decide +kernel
theorem dX4_golomb_39 : decode cX4_golomb 39 = .ok (.iconst 0, 1) := by decide +kernel
theorem dX4_golomb_40 : decode cX4_golomb 40 = .ok (.istore 4, 2) := by decide +kernel
theorem dX4_golomb_42 : decode cX4_golomb 42 = .ok (.aload_n 0, 1) := by decide +kernel
theorem dX4_golomb_43 : decode cX4_golomb 43 = .ok (.iload_n 1, 1) := by decide +kernel
theorem dX4_golomb_44 : decode cX4_golomb 44 = .ok (.ifCond .lt 13, 3) := by decide +kernel
theorem dX4_golomb_47 : decode cX4_golomb 47 = .ok (.iload_n 1, 1) := by decide +kernel
theorem dX4_golomb_48 : decode cX4_golomb 48 = .ok (.iconst 4, 1) := by decide +kernel
theorem dX4_golomb_49 : decode cX4_golomb 49 = .ok (.if_icmp .gt 8, 3) := by decide +kernel
theorem dX4_golomb_52 : decode cX4_golomb 52 = .ok (.iload 4, 2) := by decide +kernel
theorem dX4_golomb_54 : decode cX4_golomb 54 = .ok (.ifCond .eq 7, 3) := by decide +kernel
theorem dX4_golomb_57 : decode cX4_golomb 57 = .ok (.iconst 1, 1) := by decide +kernel
theorem dX4_golomb_58 : decode cX4_golomb 58 = .ok (.goto 4, 3) := by decide +kernel
theorem dX4_golomb_61 : decode cX4_golomb 61 = .ok (.iconst 0, 1) := by decide +kernel
theorem dX4_golomb_62 : decode cX4_golomb 62 = .ok (.putfield 35, 3) := by decide +kernel
theorem dX4_golomb_65 : decode cX4_golomb 65 = .ok (.aload_n 0, 1) := by decide +kernel
theorem dX4_golomb_66 : decode cX4_golomb 66 = .ok (.getfield 35, 3) := by decide +kernel
theorem dX4_golomb_69 : decode cX4_golomb 69 = .ok (.ifCond .le 5, 3) := by decide +kernel
theorem dX4_golomb_72 : decode cX4_golomb 72 = .ok (.iconst 0, 1) := by decide +kernel
theorem dX4_golomb_73 : decode cX4_golomb 73 = .ok (.ireturn, 1) := by decide +kernel
theorem dX4_golomb_74 : decode cX4_golomb 74 = .ok (.iload_n 2, 1) := by decide +kernel
theorem dX4_golomb_75 : decode cX4_golomb 75 = .ok (.ifCond .ne 7, 3) := by decide +kernel
theorem dX4_golomb_78 : decode cX4_golomb 78 = .ok (.iload_n 3, 1) := by decide +kernel
theorem dX4_golomb_79 : decode cX4_golomb 79 = .ok (.goto 20, 3) := by decide +kernel
theorem dX4_golomb_82 : decode cX4_golomb 82 = .ok (.iload_n 3, 1) := by decide +kernel
theorem dX4_golomb_83 : decode cX4_golomb 83 = .ok (.ifCond .le 11, 3) := by decide +kernel
theorem dX4_golomb_86 : decode cX4_golomb 86 = .ok (.iconst 2, 1) := by decide +kernel
theorem dX4_golomb_87 : decode cX4_golomb 87 = .ok (.iload_n 3, 1) := by decide +kernel
theorem dX4_golomb_88 : decode cX4_golomb 88 = .ok (.imul, 1) := by decide +kernel
theorem dX4_golomb_89 : decode cX4_golomb 89 = .ok (.iconst 1, 1) := by decide +kernel
theorem dX4_golomb_90 : decode cX4_golomb 90 = .ok (.isub, 1) := by decide +kernel
theorem dX4_golomb_91 : decode cX4_golomb 91 = .ok (.goto 8, 3) := by decide +kernel
theorem dX4_golomb_94 : decode cX4_golomb 94 = .ok (.iconst 0, 1) := by decide +kernel
theorem dX4_golomb_95 : decode cX4_golomb 95 = .ok (.iconst 2, 1) := by decide +kernel
theorem dX4_golomb_96 : decode cX4_golomb 96 = .ok (.iload_n 3, 1) := by decide +kernel
theorem dX4_golomb_97 : decode cX4_golomb 97 = .ok (.imul, 1) := by decide +kernel
theorem dX4_golomb_98 : decode cX4_golomb 98 = .ok (.isub, 1) := by decide +kernel
theorem dX4_golomb_99 : decode cX4_golomb 99 = .ok (.istore 5, 2) := by decide +kernel
theorem dX4_golomb_101 : decode cX4_golomb 101 = .ok (.iload 5, 2) := by decide +kernel
theorem dX4_golomb_103 : decode cX4_golomb 103 = .ok (.iconst 1, 1) := by decide +kernel
theorem dX4_golomb_104 : decode cX4_golomb 104 = .ok (.iload_n 1, 1) := by decide +kernel
theorem dX4_golomb_105 : decode cX4_golomb 105 = .ok (.ishl, 1) := by decide +kernel
theorem dX4_golomb_106 : decode cX4_golomb 106 = .ok (.iadd, 1) := by decide +kernel
theorem dX4_golomb_107 : decode cX4_golomb 107 = .ok (.istore 6, 2) := by decide +kernel
theorem dX4_golomb_109 : decode cX4_golomb 109 = .ok (.iload 6, 2) := by decide +kernel
theorem dX4_golomb_111 : decode cX4_golomb 111 = .ok (.invokestatic 97, 3) := by decide +kernel
theorem dX4_golomb_114 : decode cX4_golomb 114 = .ok (.istore 7, 2) := by decide +kernel
theorem dX4_golomb_116 : decode cX4_golomb 116 = .ok (.iload 7, 2) := by decide +kernel
theorem dX4_golomb_118 : decode cX4_golomb 118 = .ok (.iload_n 1, 1) := by decide +kernel
theorem dX4_golomb_119 : decode cX4_golomb 119 = .ok (.isub, 1) := by decide +kernel
theorem dX4_golomb_120 : decode cX4_golomb 120 = .ok (.iconst 1, 1) := by decide +kernel
theorem dX4_golomb_121 : decode cX4_golomb 121 = .ok (.iadd, 1) := by decide +kernel
theorem dX4_golomb_122 : decode cX4_golomb 122 = .ok (.iload 7, 2) := by decide +kernel
theorem dX4_golomb_124 : decode cX4_golomb 124 = .ok (.iadd, 1) := by decide +kernel
theorem dX4_golomb_125 : decode cX4_golomb 125 = .ok (.istore 8, 2) := by decide +kernel
theorem dX4_golomb_127 : decode cX4_golomb 127 = .ok (.aload_n 0, 1) := by decide +kernel
theorem dX4_golomb_128 : decode cX4_golomb 128 = .ok (.aload_n 0, 1) := by decide +kernel
theorem dX4_golomb_129 : decode cX4_golomb 129 = .ok (.iload 8, 2) := by decide +kernel
theorem dX4_golomb_131 : decode cX4_golomb 131 = .ok (.invokevirtual 85, 3) := by decide +kernel
theorem dX4_golomb_134 : decode cX4_golomb 134 = .ok (.ifCond .eq 7, 3) := by decide +kernel
theorem dX4_golomb_137 : decode cX4_golomb 137 = .ok (.iconst 2, 1) := by decide +kernel
theorem dX4_golomb_138 : decode cX4_golomb 138 = .ok (.goto 4, 3) := by decide +kernel
theorem dX4_golomb_141 : decode cX4_golomb 141 = .ok (.iconst 0, 1) := by decide +kernel
theorem dX4_golomb_142 : decode cX4_golomb 142 = .ok (.putfield 35, 3) := by decide +kernel
theorem dX4_golomb_145 : decode cX4_golomb 145 = .ok (.aload_n 0, 1) := by decide +kernel
theorem dX4_golomb_146 : decode cX4_golomb 146 = .ok (.getfield 35, 3) := by decide +kernel
theorem dX4_golomb_149 : decode cX4_golomb 149 = .ok (.ifCond .le 5, 3) := by decide +kernel
theorem dX4_golomb_152 : decode cX4_golomb 152 = .ok (.iconst 0, 1) := by decide +kernel
theorem dX4_golomb_153 : decode cX4_golomb 153 = .ok (.ireturn, 1) := by decide +kernel
theorem dX4_golomb_154 : decode cX4_golomb 154 = .ok (.iload_n 1, 1) := by decide +kernel
theorem dX4_golomb_155 : decode cX4_golomb 155 = .ok (.istore 9, 2) := by decide +kernel
theorem dX4_golomb_157 : decode cX4_golomb 157 = .ok (.iload 9, 2) := by decide +kernel
theorem dX4_golomb_159 : decode cX4_golomb 159 = .ok (.iload 7, 2) := by decide +kernel
theorem dX4_golomb_161 : decode cX4_golomb 161 = .ok (.if_icmp .ge 14, 3) := by decide +kernel
theorem dX4_golomb_164 : decode cX4_golomb 164 = .ok (.aload_n 0, 1) := by decide +kernel
theorem dX4_golomb_165 : decode cX4_golomb 165 = .ok (.iconst 1, 1) := by decide +kernel
theorem dX4_golomb_166 : decode cX4_golomb 166 = .ok (.invokevirtual 92, 3) := by decide +kernel
theorem dX4_golomb_169 : decode cX4_golomb 169 = .ok (.iinc 9 1, 3) := by decide +kernel
theorem dX4_golomb_172 : decode cX4_golomb 172 = .ok (.goto (-15), 3) := by decide +kernel
theorem dX4_golomb_175 : decode cX4_golomb 175 = .ok (.aload_n 0, 1) := by decide +kernel
theorem dX4_golomb_176 : decode cX4_golomb 176 = .ok (.iconst 0, 1) := by decide +kernel
theorem dX4_golomb_177 : decode cX4_golomb 177 = .ok (.invokevirtual 92, 3) := by decide +kernel
theorem dX4_golomb_180 : decode cX4_golomb 180 = .ok (.iload 7, 2) := by decide +kernel
theorem dX4_golomb_182 : decode cX4_golomb 182 = .ok (.iconst 1, 1) := by decide +kernel
theorem dX4_golomb_183 : decode cX4_golomb 183 = .ok (.isub, 1) := by decide +kernel
theorem dX4_golomb_184 : decode cX4_golomb 184 = .ok (.istore 9, 2) := by decide +kernel
theorem dX4_golomb_186 : decode cX4_golomb 186 = .ok (.iload 9, 2) := by decide +kernel
theorem dX4_golomb_188 : decode cX4_golomb 188 = .ok (.ifCond .lt 20, 3) := by decide +kernel
theorem dX4_golomb_191 : decode cX4_golomb 191 = .ok (.aload_n 0, 1) := by decide +kernel
theorem dX4_golomb_192 : decode cX4_golomb 192 = .ok (.iload 6, 2) := by decide +kernel
theorem dX4_golomb_194 : decode cX4_golomb 194 = .ok (.iload 9, 2) := by decide +kernel
theorem dX4_golomb_196 : decode cX4_golomb 196 = .ok (.ishr, 1) := by decide +kernel
theorem dX4_golomb_197 : decode cX4_golomb 197 = .ok (.iconst 1, 1) := by decide +kernel
theorem dX4_golomb_198 : decode cX4_golomb 198 = .ok (.iand, 1) := by decide +kernel
theorem dX4_golomb_199 : decode cX4_golomb 199 = .ok (.invokevirtual 92, 3) := by decide +kernel
theorem dX4_golomb_202 : decode cX4_golomb 202 = .ok (.iinc 9 (-1), 3) := by decide +kernel
theorem dX4_golomb_205 : decode cX4_golomb 205 = .ok (.goto (-19), 3) := by decide +kernel
theorem dX4_golomb_208 : decode cX4_golomb 208 = .ok (.iload 8, 2) := by decide +kernel
theorem dX4_golomb_210 : decode cX4_golomb 210 = .ok (.ireturn, 1) := by decide +kernel
set_option maxRecDepth 20000 in
theorem ggX4_unary_X4_noRoom : GoodIn wsX4_unary wsX4_noRoom := goodIn_r _ [6, 7, 8, 38, 39, 40, 41, 42, 43, 44, 45, 46, 47, 48, 49, 50, 51, 52, 53, 54, 55, 56, 57, 58] (by decide +kernel) (by decide +kernel)
set_option maxRecDepth 20000 in
theorem gX4_unary_X4_noRoom : GoodIn wsX4_unary (wsV RX4 85 RX4 yX4_noRoom wsX4_noRoom) := goodIn_app (goodIn_of _ (by decide +kernel)) ggX4_unary_X4_noRoom
set_option maxRecDepth 20000 in
theorem ggX4_unary_X4_decide : GoodIn wsX4_unary wsX4_decide := goodIn_r _ [12, 13, 14, 15, 16, 8, 17, 18, 19, 5, 20, 21, 22, 23, 24, 25, 26, 27, 28, 29, 30, 31, 32, 33, 34, 35, 36, 37, 38, 39, 40, 41, 42, 43, 44, 45, 46, 47, 48, 49, 50, 51, 52, 53, 54, 55, 56, 57, 58] (by decide +kernel) (by decide +kernel)
set_option maxRecDepth 20000 in
theorem gX4_unary_X4_decide : GoodIn wsX4_unary (wsV RX4 88 RX4 yX4_decide wsX4_decide) := goodIn_app (goodIn_of _ (by decide +kernel)) ggX4_unary_X4_decide
theorem dX4_unary_0 : decode cX4_unary 0 = .ok (.aload_n 0, 1) := by decide +kernel
theorem dX4_unary_1 : decode cX4_unary 1 = .ok (.iload_n 1, 1) := by decide +kernel
theorem dX4_unary_2 : decode cX4_unary 2 = .ok (.ifCond .lt 9, 3) := by decide +kernel
theorem dX4_unary_5 : decode cX4_unary 5 = .ok (.iload_n 1, 1) := by decide +kernel
theorem dX4_unary_6 : decode cX4_unary 6 = .ok (.bipush 28, 2) := by decide +kernel
theorem dX4_unary_8 : decode cX4_unary 8 = .ok (.if_icmp .le 7, 3) := by decide +kernel
theorem dX4_unary_11 : decode cX4_unary 11 = .ok (.iconst 1, 1) := by decide +kernel
theorem dX4_unary_12 : decode cX4_unary 12 = .ok (.goto 28, 3) := by decide +kernel
theorem dX4_unary_15 : decode cX4_unary 15 = .ok (.iload_n 2, 1) := by decide +kernel
theorem dX4_unary_16 : decode cX4_unary 16 = .ok (.iconst 1, 1) := by decide +kernel
theorem dX4_unary_17 : decode cX4_unary 17 = .ok (.if_icmp .lt 18, 3) := by decide +kernel
theorem dX4_unary_20 : decode cX4_unary 20 = .ok (.iload_n 2, 1) := by decide +kernel
theorem dX4_unary_21 : decode cX4_unary 21 = .ok (.bipush 15, 2) := by decide +kernel
theorem dX4_unary_23 : decode cX4_unary 23 = .ok (.if_icmp .gt 12, 3) := by decide +kernel
theorem dX4_unary_26 : decode cX4_unary 26 = .ok (.iload_n 3, 1) := by decide +kernel
theorem dX4_unary_27 : decode cX4_unary 27 = .ok (.ifCond .lt 8, 3) := by decide +kernel
theorem dX4_unary_30 : decode cX4_unary 30 = .ok (.iload_n 3, 1) := by decide +kernel
theorem dX4_unary_31 : decode cX4_unary 31 = .ok (.iload_n 2, 1) := by decide +kernel
theorem dX4_unary_32 : decode cX4_unary 32 = .ok (.if_icmp .le 7, 3) := by decide +kernel
theorem dX4_unary_35 : decode cX4_unary 35 = .ok (.iconst 2, 1) := by decide +kernel
theorem dX4_unary_36 : decode cX4_unary 36 = .ok (.goto 4, 3) := by decide +kernel
theorem dX4_unary_39 : decode cX4_unary 39 = .ok (.iconst 0, 1) := by decide +kernel
theorem dX4_unary_40 : decode cX4_unary 40 = .ok (.putfield 35, 3) := by decide +kernel
theorem dX4_unary_43 : decode cX4_unary 43 = .ok (.aload_n 0, 1) := by decide +kernel
theorem dX4_unary_44 : decode cX4_unary 44 = .ok (.getfield 35, 3) := by decide +kernel
theorem dX4_unary_47 : decode cX4_unary 47 = .ok (.ifCond .le 5, 3) := by decide +kernel
theorem dX4_unary_50 : decode cX4_unary 50 = .ok (.iconst 0, 1) := by decide +kernel
theorem dX4_unary_51 : decode cX4_unary 51 = .ok (.ireturn, 1) := by decide +kernel
theorem dX4_unary_52 : decode cX4_unary 52 = .ok (.iload_n 3, 1) := by decide +kernel
theorem dX4_unary_53 : decode cX4_unary 53 = .ok (.iload_n 2, 1) := by decide +kernel
theorem dX4_unary_54 : decode cX4_unary 54 = .ok (.if_icmp .ne 7, 3) := by decide +kernel
theorem dX4_unary_57 : decode cX4_unary 57 = .ok (.iload_n 3, 1) := by decide +kernel
theorem dX4_unary_58 : decode cX4_unary 58 = .ok (.goto 6, 3) := by decide +kernel
theorem dX4_unary_61 : decode cX4_unary 61 = .ok (.iload_n 3, 1) := by decide +kernel
theorem dX4_unary_62 : decode cX4_unary 62 = .ok (.iconst 1, 1) := by decide +kernel
theorem dX4_unary_63 : decode cX4_unary 63 = .ok (.iadd, 1) := by decide +kernel
theorem dX4_unary_64 : decode cX4_unary 64 = .ok (.istore 4, 2) := by decide +kernel
theorem dX4_unary_66 : decode cX4_unary 66 = .ok (.aload_n 0, 1) := by decide +kernel
theorem dX4_unary_67 : decode cX4_unary 67 = .ok (.aload_n 0, 1) := by decide +kernel
theorem dX4_unary_68 : decode cX4_unary 68 = .ok (.iload 4, 2) := by decide +kernel
theorem dX4_unary_70 : decode cX4_unary 70 = .ok (.invokevirtual 85, 3) := by decide +kernel
theorem dX4_unary_73 : decode cX4_unary 73 = .ok (.ifCond .eq 7, 3) := by decide +kernel
theorem dX4_unary_76 : decode cX4_unary 76 = .ok (.iconst 3, 1) := by decide +kernel
theorem dX4_unary_77 : decode cX4_unary 77 = .ok (.goto 4, 3) := by decide +kernel
theorem dX4_unary_80 : decode cX4_unary 80 = .ok (.iconst 0, 1) := by decide +kernel
theorem dX4_unary_81 : decode cX4_unary 81 = .ok (.putfield 35, 3) := by decide +kernel
theorem dX4_unary_84 : decode cX4_unary 84 = .ok (.aload_n 0, 1) := by decide +kernel
theorem dX4_unary_85 : decode cX4_unary 85 = .ok (.getfield 35, 3) := by decide +kernel
theorem dX4_unary_88 : decode cX4_unary 88 = .ok (.ifCond .le 5, 3) := by decide +kernel
theorem dX4_unary_91 : decode cX4_unary 91 = .ok (.iconst 0, 1) := by decide +kernel
theorem dX4_unary_92 : decode cX4_unary 92 = .ok (.ireturn, 1) := by decide +kernel
theorem dX4_unary_93 : decode cX4_unary 93 = .ok (.iconst 0, 1) := by decide +kernel
theorem dX4_unary_94 : decode cX4_unary 94 = .ok (.istore 5, 2) := by decide +kernel
theorem dX4_unary_96 : decode cX4_unary 96 = .ok (.iload 5, 2) := by decide +kernel
theorem dX4_unary_98 : decode cX4_unary 98 = .ok (.iload 4, 2) := by decide +kernel
theorem dX4_unary_100 : decode cX4_unary 100 = .ok (.if_icmp .ge 40, 3) := by decide +kernel
theorem dX4_unary_103 : decode cX4_unary 103 = .ok (.aload_n 0, 1) := by decide +kernel
theorem dX4_unary_104 : decode cX4_unary 104 = .ok (.iload 5, 2) := by decide +kernel
theorem dX4_unary_106 : decode cX4_unary 106 = .ok (.iconst 3, 1) := by decide +kernel
theorem dX4_unary_107 : decode cX4_unary 107 = .ok (.if_icmp .ge 10, 3) := by decide +kernel
theorem dX4_unary_110 : decode cX4_unary 110 = .ok (.iload_n 1, 1) := by decide +kernel
theorem dX4_unary_111 : decode cX4_unary 111 = .ok (.iload 5, 2) := by decide +kernel
theorem dX4_unary_113 : decode cX4_unary 113 = .ok (.iadd, 1) := by decide +kernel
theorem dX4_unary_114 : decode cX4_unary 114 = .ok (.goto 6, 3) := by decide +kernel
theorem dX4_unary_117 : decode cX4_unary 117 = .ok (.iload_n 1, 1) := by decide +kernel
theorem dX4_unary_118 : decode cX4_unary 118 = .ok (.iconst 3, 1) := by decide +kernel
theorem dX4_unary_119 : decode cX4_unary 119 = .ok (.iadd, 1) := by decide +kernel
theorem dX4_unary_120 : decode cX4_unary 120 = .ok (.iload 5, 2) := by decide +kernel
theorem dX4_unary_122 : decode cX4_unary 122 = .ok (.iload_n 3, 1) := by decide +kernel
theorem dX4_unary_123 : decode cX4_unary 123 = .ok (.if_icmp .ge 7, 3) := by decide +kernel
theorem dX4_unary_126 : decode cX4_unary 126 = .ok (.iconst 1, 1) := by decide +kernel
theorem dX4_unary_127 : decode cX4_unary 127 = .ok (.goto 4, 3) := by decide +kernel
theorem dX4_unary_130 : decode cX4_unary 130 = .ok (.iconst 0, 1) := by decide +kernel
theorem dX4_unary_131 : decode cX4_unary 131 = .ok (.invokevirtual 88, 3) := by decide +kernel
theorem dX4_unary_134 : decode cX4_unary 134 = .ok (.iinc 5 1, 3) := by decide +kernel
theorem dX4_unary_137 : decode cX4_unary 137 = .ok (.goto (-41), 3) := by decide +kernel
theorem dX4_unary_140 : decode cX4_unary 140 = .ok (.iload 4, 2) := by decide +kernel
theorem dX4_unary_142 : decode cX4_unary 142 = .ok (.ireturn, 1) := by decide +kernel
set_option maxRecDepth 20000 in
theorem ggX4_mark_X4_noRoom : GoodIn wsX4_mark wsX4_noRoom := goodIn_r _ [8, 9, 3, 21, 22, 23, 24, 25, 26, 27, 28, 29, 30, 31, 32, 33, 34, 35, 36, 37, 38, 39, 40, 41] (by decide +kernel) (by decide +kernel)
set_option maxRecDepth 20000 in
theorem gX4_mark_X4_noRoom : GoodIn wsX4_mark (wsV RX4 85 RX4 yX4_noRoom wsX4_noRoom) := goodIn_app (goodIn_of _ (by decide +kernel)) ggX4_mark_X4_noRoom
set_option maxRecDepth 20000 in
theorem ggX4_mark_X4_shift : GoodIn wsX4_mark wsX4_shift := goodIn_r _ [13, 2, 14, 15, 16, 17, 7, 18, 19, 20, 21, 22, 23, 24, 25, 26, 27, 28, 29, 30, 31, 32, 33, 34, 35, 36, 37, 38, 39, 40, 41] (by decide +kernel) (by decide +kernel)
set_option maxRecDepth 20000 in
theorem gX4_mark_X4_shift : GoodIn wsX4_mark (wsV RX4 82 RX4 yX4_shift wsX4_shift) := goodIn_app (goodIn_of _ (by decide +kernel)) ggX4_mark_X4_shift
theorem dX4_mark_0 : decode cX4_mark 0 = .ok (.aload_n 0, 1) := by decide +kernel
theorem dX4_mark_1 : decode cX4_mark 1 = .ok (.aload_n 0, 1) := by decide +kernel
theorem dX4_mark_2 : decode cX4_mark 2 = .ok (.iconst 1, 1) := by decide +kernel
theorem dX4_mark_3 : decode cX4_mark 3 = .ok (.invokevirtual 85, 3) := by decide +kernel
theorem dX4_mark_6 : decode cX4_mark 6 = .ok (.ifCond .eq 7, 3) := by decide +kernel
theorem dX4_mark_9 : decode cX4_mark 9 = .ok (.iconst 1, 1) := by decide +kernel
theorem dX4_mark_10 : decode cX4_mark 10 = .ok (.goto 4, 3) := by decide +kernel
theorem dX4_mark_13 : decode cX4_mark 13 = .ok (.iconst 0, 1) := by decide +kernel
theorem dX4_mark_14 : decode cX4_mark 14 = .ok (.putfield 35, 3) := by decide +kernel
theorem dX4_mark_17 : decode cX4_mark 17 = .ok (.aload_n 0, 1) := by decide +kernel
theorem dX4_mark_18 : decode cX4_mark 18 = .ok (.getfield 35, 3) := by decide +kernel
theorem dX4_mark_21 : decode cX4_mark 21 = .ok (.ifCond .le 4, 3) := by decide +kernel
theorem dX4_mark_24 : decode cX4_mark 24 = .ok (.return_, 1) := by decide +kernel
theorem dX4_mark_25 : decode cX4_mark 25 = .ok (.aload_n 0, 1) := by decide +kernel
theorem dX4_mark_26 : decode cX4_mark 26 = .ok (.aload_n 0, 1) := by decide +kernel
theorem dX4_mark_27 : decode cX4_mark 27 = .ok (.getfield 50, 3) := by decide +kernel
theorem dX4_mark_30 : decode cX4_mark 30 = .ok (.iconst 2, 1) := by decide +kernel
theorem dX4_mark_31 : decode cX4_mark 31 = .ok (.isub, 1) := by decide +kernel
theorem dX4_mark_32 : decode cX4_mark 32 = .ok (.putfield 50, 3) := by decide +kernel
theorem dX4_mark_35 : decode cX4_mark 35 = .ok (.aload_n 0, 1) := by decide +kernel
