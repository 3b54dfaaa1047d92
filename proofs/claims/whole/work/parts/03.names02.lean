theorem dX1_nextBit_8 : decode cX1_nextBit 8 = .ok (.if_icmp .lt 5, 3) := by decide +kernel
theorem dX1_nextBit_11 : decode cX1_nextBit 11 = .ok (.iconst 0, 1) := by decide +kernel
theorem dX1_nextBit_12 : decode cX1_nextBit 12 = .ok (.ireturn, 1) := by decide +kernel
theorem dX1_nextBit_13 : decode cX1_nextBit 13 = .ok (.aload_n 0, 1) := by decide +kernel
theorem dX1_nextBit_14 : decode cX1_nextBit 14 = .ok (.getfield 18, 3) := by decide +kernel
theorem dX1_nextBit_17 : decode cX1_nextBit 17 = .ok (.aload_n 0, 1) := by decide +kernel
theorem dX1_nextBit_18 : decode cX1_nextBit 18 = .ok (.getfield 36, 3) := by decide +kernel
theorem dX1_nextBit_21 : decode cX1_nextBit 21 = .ok (.bipush 8, 2) := by decide +kernel
theorem dX1_nextBit_23 : decode cX1_nextBit 23 = .ok (.idiv, 1) := by decide +kernel
theorem dX1_nextBit_24 : decode cX1_nextBit 24 = .ok (.iaload, 1) := by decide +kernel
theorem dX1_nextBit_25 : decode cX1_nextBit 25 = .ok (.bipush 7, 2) := by decide +kernel
theorem dX1_nextBit_27 : decode cX1_nextBit 27 = .ok (.aload_n 0, 1) := by decide +kernel
theorem dX1_nextBit_28 : decode cX1_nextBit 28 = .ok (.getfield 36, 3) := by decide +kernel
theorem dX1_nextBit_31 : decode cX1_nextBit 31 = .ok (.bipush 8, 2) := by decide +kernel
theorem dX1_nextBit_33 : decode cX1_nextBit 33 = .ok (.irem, 1) := by decide +kernel
theorem dX1_nextBit_34 : decode cX1_nextBit 34 = .ok (.isub, 1) := by decide +kernel
theorem dX1_nextBit_35 : decode cX1_nextBit 35 = .ok (.ishr, 1) := by decide +kernel
theorem dX1_nextBit_36 : decode cX1_nextBit 36 = .ok (.iconst 1, 1) := by decide +kernel
theorem dX1_nextBit_37 : decode cX1_nextBit 37 = .ok (.iand, 1) := by decide +kernel
theorem dX1_nextBit_38 : decode cX1_nextBit 38 = .ok (.istore_n 1, 1) := by decide +kernel
theorem dX1_nextBit_39 : decode cX1_nextBit 39 = .ok (.aload_n 0, 1) := by decide +kernel
theorem dX1_nextBit_40 : decode cX1_nextBit 40 = .ok (.dup, 1) := by decide +kernel
theorem dX1_nextBit_41 : decode cX1_nextBit 41 = .ok (.getfield 36, 3) := by decide +kernel
theorem dX1_nextBit_44 : decode cX1_nextBit 44 = .ok (.iconst 1, 1) := by decide +kernel
theorem dX1_nextBit_45 : decode cX1_nextBit 45 = .ok (.iadd, 1) := by decide +kernel
theorem dX1_nextBit_46 : decode cX1_nextBit 46 = .ok (.putfield 36, 3) := by decide +kernel
theorem dX1_nextBit_49 : decode cX1_nextBit 49 = .ok (.iload_n 1, 1) := by decide +kernel
theorem dX1_nextBit_50 : decode cX1_nextBit 50 = .ok (.ireturn, 1) := by decide +kernel
set_option maxRecDepth 20000 in
theorem ggX2_init_X0_init : GoodIn wsX2_init wsX0_init := goodIn_r _ [11, 12, 2, 3, 8, 13, 14, 15, 16] (by decide +kernel) (by decide +kernel)
set_option maxRecDepth 20000 in
theorem gX2_init_X0_init_n11 : GoodIn wsX2_init (wsX0_init) := ggX2_init_X0_init
theorem dX2_init_0 : decode cX2_init 0 = .ok (.aload_n 0, 1) := by decide +kernel
theorem dX2_init_1 : decode cX2_init 1 = .ok (.invokespecial 3, 3) := by decide +kernel
theorem dX2_init_4 : decode cX2_init 4 = .ok (.aload_n 0, 1) := by decide +kernel
theorem dX2_init_5 : decode cX2_init 5 = .ok (.new 9, 3) := by decide +kernel
theorem dX2_init_8 : decode cX2_init 8 = .ok (.dup, 1) := by decide +kernel
theorem dX2_init_9 : decode cX2_init 9 = .ok (.invokespecial 11, 3) := by decide +kernel
theorem dX2_init_12 : decode cX2_init 12 = .ok (.putfield 12, 3) := by decide +kernel
theorem dX2_init_15 : decode cX2_init 15 = .ok (.aload_n 0, 1) := by decide +kernel
theorem dX2_init_16 : decode cX2_init 16 = .ok (.sipush 302, 3) := by decide +kernel
theorem dX2_init_19 : decode cX2_init 19 = .ok (.newarray .int, 2) := by decide +kernel
theorem dX2_init_21 : decode cX2_init 21 = .ok (.putfield 18, 3) := by decide +kernel
theorem dX2_init_24 : decode cX2_init 24 = .ok (.return_, 1) := by decide +kernel
set_option maxRecDepth 20000 in
theorem ggX2_begin_X0_become : GoodIn wsX2_begin wsX0_become := goodIn_r _ [16, 17, 18, 19, 20, 21, 22, 38, 39] (by decide +kernel) (by decide +kernel)
set_option maxRecDepth 20000 in
theorem gX2_begin_X0_become : GoodIn wsX2_begin (wsV RX2 22 RX0 yX0_become wsX0_become) := goodIn_app (goodIn_of _ (by decide +kernel)) ggX2_begin_X0_become
set_option maxRecDepth 20000 in
theorem ggX2_begin_J7_fill_53178 : GoodIn wsX2_begin wsJ7_fill_53178 := goodIn_r _ [26] (by decide +kernel) (by decide +kernel)
set_option maxRecDepth 20000 in
theorem gX2_begin_J7_fill_53178 : GoodIn wsX2_begin (va_wsS RX2 26 yJ7_fill_53178 wsJ7_fill_53178) := goodIn_app (goodIn_of _ (by decide +kernel)) ggX2_begin_J7_fill_53178
theorem dX2_begin_0 : decode cX2_begin 0 = .ok (.aload_n 0, 1) := by decide +kernel
theorem dX2_begin_1 : decode cX2_begin 1 = .ok (.getfield 12, 3) := by decide +kernel
theorem dX2_begin_4 : decode cX2_begin 4 = .ok (.aload_n 1, 1) := by decide +kernel
theorem dX2_begin_5 : decode cX2_begin 5 = .ok (.invokevirtual 22, 3) := by decide +kernel
theorem dX2_begin_8 : decode cX2_begin 8 = .ok (.aload_n 0, 1) := by decide +kernel
theorem dX2_begin_9 : decode cX2_begin 9 = .ok (.getfield 18, 3) := by decide +kernel
theorem dX2_begin_12 : decode cX2_begin 12 = .ok (.iconst 0, 1) := by decide +kernel
theorem dX2_begin_13 : decode cX2_begin 13 = .ok (.invokestatic 26, 3) := by decide +kernel
theorem dX2_begin_16 : decode cX2_begin 16 = .ok (.aload_n 0, 1) := by decide +kernel
theorem dX2_begin_17 : decode cX2_begin 17 = .ok (.iconst 0, 1) := by decide +kernel
theorem dX2_begin_18 : decode cX2_begin 18 = .ok (.putfield 32, 3) := by decide +kernel
theorem dX2_begin_21 : decode cX2_begin 21 = .ok (.aload_n 0, 1) := by decide +kernel
theorem dX2_begin_22 : decode cX2_begin 22 = .ok (.sipush 510, 3) := by decide +kernel
theorem dX2_begin_25 : decode cX2_begin 25 = .ok (.putfield 36, 3) := by decide +kernel
theorem dX2_begin_28 : decode cX2_begin 28 = .ok (.aload_n 0, 1) := by decide +kernel
theorem dX2_begin_29 : decode cX2_begin 29 = .ok (.iconst 0, 1) := by decide +kernel
theorem dX2_begin_30 : decode cX2_begin 30 = .ok (.putfield 39, 3) := by decide +kernel
theorem dX2_begin_33 : decode cX2_begin 33 = .ok (.aload_n 0, 1) := by decide +kernel
theorem dX2_begin_34 : decode cX2_begin 34 = .ok (.iconst 0, 1) := by decide +kernel
theorem dX2_begin_35 : decode cX2_begin 35 = .ok (.putfield 42, 3) := by decide +kernel
theorem dX2_begin_38 : decode cX2_begin 38 = .ok (.aload_n 0, 1) := by decide +kernel
theorem dX2_begin_39 : decode cX2_begin 39 = .ok (.iconst 0, 1) := by decide +kernel
theorem dX2_begin_40 : decode cX2_begin 40 = .ok (.putfield 45, 3) := by decide +kernel
theorem dX2_begin_43 : decode cX2_begin 43 = .ok (.aload_n 0, 1) := by decide +kernel
theorem dX2_begin_44 : decode cX2_begin 44 = .ok (.iconst 0, 1) := by decide +kernel
theorem dX2_begin_45 : decode cX2_begin 45 = .ok (.putfield 48, 3) := by decide +kernel
theorem dX2_begin_48 : decode cX2_begin 48 = .ok (.aload_n 0, 1) := by decide +kernel
theorem dX2_begin_49 : decode cX2_begin 49 = .ok (.iconst 1, 1) := by decide +kernel
theorem dX2_begin_50 : decode cX2_begin 50 = .ok (.putfield 51, 3) := by decide +kernel
theorem dX2_begin_53 : decode cX2_begin 53 = .ok (.aload_n 0, 1) := by decide +kernel
theorem dX2_begin_54 : decode cX2_begin 54 = .ok (.iconst 0, 1) := by decide +kernel
theorem dX2_begin_55 : decode cX2_begin 55 = .ok (.putfield 55, 3) := by decide +kernel
theorem dX2_begin_58 : decode cX2_begin 58 = .ok (.aload_n 0, 1) := by decide +kernel
theorem dX2_begin_59 : decode cX2_begin 59 = .ok (.iconst 0, 1) := by decide +kernel
theorem dX2_begin_60 : decode cX2_begin 60 = .ok (.putfield 58, 3) := by decide +kernel
theorem dX2_begin_63 : decode cX2_begin 63 = .ok (.return_, 1) := by decide +kernel
set_option maxRecDepth 20000 in
theorem ggX2_decide_X0_unlikelyPart : GoodIn wsX2_decide wsX0_unlikelyPart := goodIn_r _ [10, 11, 54, 55] (by decide +kernel) (by decide +kernel)
set_option maxRecDepth 20000 in
theorem gX2_decide_X0_unlikelyPart : GoodIn wsX2_decide (wsV RX2 61 RX0 yX0_unlikelyPart wsX0_unlikelyPart) := goodIn_app (goodIn_of _ (by decide +kernel)) ggX2_decide_X0_unlikelyPart
set_option maxRecDepth 20000 in
theorem ggX2_decide_X0_learn : GoodIn wsX2_decide wsX0_learn := goodIn_r _ [15, 11, 16, 17, 18, 19, 20, 54, 55] (by decide +kernel) (by decide +kernel)
set_option maxRecDepth 20000 in
theorem gX2_decide_X0_learn : GoodIn wsX2_decide (wsV RX2 68 RX0 yX0_learn wsX0_learn) := goodIn_app (goodIn_of _ (by decide +kernel)) ggX2_decide_X0_learn
set_option maxRecDepth 20000 in
theorem ggX2_decide_X2_shift : GoodIn wsX2_decide wsX2_shift := goodIn_r _ [25, 2, 4, 26, 27, 28, 24, 29, 30, 31, 32, 33, 34, 35, 36, 37, 38, 39, 40, 41, 42, 43, 44, 45, 46, 47, 48, 49, 50, 51, 52, 53] (by decide +kernel) (by decide +kernel)
set_option maxRecDepth 20000 in
theorem gX2_decide_X2_shift : GoodIn wsX2_decide (wsV RX2 72 RX2 yX2_shift wsX2_shift) := goodIn_app (goodIn_of _ (by decide +kernel)) ggX2_decide_X2_shift
theorem dX2_decide_0 : decode cX2_decide 0 = .ok (.aload_n 0, 1) := by decide +kernel
theorem dX2_decide_1 : decode cX2_decide 1 = .ok (.getfield 12, 3) := by decide +kernel
theorem dX2_decide_4 : decode cX2_decide 4 = .ok (.iload_n 1, 1) := by decide +kernel
theorem dX2_decide_5 : decode cX2_decide 5 = .ok (.aload_n 0, 1) := by decide +kernel
theorem dX2_decide_6 : decode cX2_decide 6 = .ok (.getfield 36, 3) := by decide +kernel
theorem dX2_decide_9 : decode cX2_decide 9 = .ok (.invokevirtual 61, 3) := by decide +kernel
theorem dX2_decide_12 : decode cX2_decide 12 = .ok (.istore_n 3, 1) := by decide +kernel
theorem dX2_decide_13 : decode cX2_decide 13 = .ok (.aload_n 0, 1) := by decide +kernel
theorem dX2_decide_14 : decode cX2_decide 14 = .ok (.dup, 1) := by decide +kernel
theorem dX2_decide_15 : decode cX2_decide 15 = .ok (.getfield 36, 3) := by decide +kernel
theorem dX2_decide_18 : decode cX2_decide 18 = .ok (.iload_n 3, 1) := by decide +kernel
theorem dX2_decide_19 : decode cX2_decide 19 = .ok (.isub, 1) := by decide +kernel
theorem dX2_decide_20 : decode cX2_decide 20 = .ok (.putfield 36, 3) := by decide +kernel
theorem dX2_decide_23 : decode cX2_decide 23 = .ok (.iload_n 2, 1) := by decide +kernel
theorem dX2_decide_24 : decode cX2_decide 24 = .ok (.aload_n 0, 1) := by decide +kernel
theorem dX2_decide_25 : decode cX2_decide 25 = .ok (.getfield 12, 3) := by decide +kernel
theorem dX2_decide_28 : decode cX2_decide 28 = .ok (.getfield 65, 3) := by decide +kernel
theorem dX2_decide_31 : decode cX2_decide 31 = .ok (.iload_n 1, 1) := by decide +kernel
theorem dX2_decide_32 : decode cX2_decide 32 = .ok (.iaload, 1) := by decide +kernel
theorem dX2_decide_33 : decode cX2_decide 33 = .ok (.if_icmp .eq 21, 3) := by decide +kernel
theorem dX2_decide_36 : decode cX2_decide 36 = .ok (.aload_n 0, 1) := by decide +kernel
theorem dX2_decide_37 : decode cX2_decide 37 = .ok (.dup, 1) := by decide +kernel
theorem dX2_decide_38 : decode cX2_decide 38 = .ok (.getfield 39, 3) := by decide +kernel
theorem dX2_decide_41 : decode cX2_decide 41 = .ok (.aload_n 0, 1) := by decide +kernel
theorem dX2_decide_42 : decode cX2_decide 42 = .ok (.getfield 36, 3) := by decide +kernel
theorem dX2_decide_45 : decode cX2_decide 45 = .ok (.iadd, 1) := by decide +kernel
theorem dX2_decide_46 : decode cX2_decide 46 = .ok (.putfield 39, 3) := by decide +kernel
theorem dX2_decide_49 : decode cX2_decide 49 = .ok (.aload_n 0, 1) := by decide +kernel
theorem dX2_decide_50 : decode cX2_decide 50 = .ok (.iload_n 3, 1) := by decide +kernel
theorem dX2_decide_51 : decode cX2_decide 51 = .ok (.putfield 36, 3) := by decide +kernel
theorem dX2_decide_54 : decode cX2_decide 54 = .ok (.aload_n 0, 1) := by decide +kernel
theorem dX2_decide_55 : decode cX2_decide 55 = .ok (.getfield 12, 3) := by decide +kernel
theorem dX2_decide_58 : decode cX2_decide 58 = .ok (.iload_n 1, 1) := by decide +kernel
theorem dX2_decide_59 : decode cX2_decide 59 = .ok (.iload_n 2, 1) := by decide +kernel
theorem dX2_decide_60 : decode cX2_decide 60 = .ok (.invokevirtual 68, 3) := by decide +kernel
theorem dX2_decide_63 : decode cX2_decide 63 = .ok (.aload_n 0, 1) := by decide +kernel
theorem dX2_decide_64 : decode cX2_decide 64 = .ok (.invokevirtual 72, 3) := by decide +kernel
theorem dX2_decide_67 : decode cX2_decide 67 = .ok (.aload_n 0, 1) := by decide +kernel
theorem dX2_decide_68 : decode cX2_decide 68 = .ok (.dup, 1) := by decide +kernel
theorem dX2_decide_69 : decode cX2_decide 69 = .ok (.getfield 48, 3) := by decide +kernel
theorem dX2_decide_72 : decode cX2_decide 72 = .ok (.iconst 1, 1) := by decide +kernel
theorem dX2_decide_73 : decode cX2_decide 73 = .ok (.iadd, 1) := by decide +kernel
theorem dX2_decide_74 : decode cX2_decide 74 = .ok (.putfield 48, 3) := by decide +kernel
theorem dX2_decide_77 : decode cX2_decide 77 = .ok (.return_, 1) := by decide +kernel
set_option maxRecDepth 20000 in
theorem ggX2_goBy_X2_settleTopBit : GoodIn wsX2_goBy wsX2_settleTopBit := goodIn_r _ [8, 1, 9, 10, 11, 12, 13, 7, 14, 15, 16, 17, 18, 19, 20, 21, 22, 23, 24, 25, 26, 27, 28, 29, 30, 31, 32] (by decide +kernel) (by decide +kernel)
set_option maxRecDepth 20000 in
theorem gX2_goBy_X2_settleTopBit : GoodIn wsX2_goBy (wsV RX2 75 RX2 yX2_settleTopBit wsX2_settleTopBit) := goodIn_app (goodIn_of _ (by decide +kernel)) ggX2_goBy_X2_settleTopBit
theorem dX2_goBy_0 : decode cX2_goBy 0 = .ok (.aload_n 0, 1) := by decide +kernel
theorem dX2_goBy_1 : decode cX2_goBy 1 = .ok (.iconst 2, 1) := by decide +kernel
theorem dX2_goBy_2 : decode cX2_goBy 2 = .ok (.aload_n 0, 1) := by decide +kernel
theorem dX2_goBy_3 : decode cX2_goBy 3 = .ok (.getfield 39, 3) := by decide +kernel
theorem dX2_goBy_6 : decode cX2_goBy 6 = .ok (.imul, 1) := by decide +kernel
theorem dX2_goBy_7 : decode cX2_goBy 7 = .ok (.iload_n 1, 1) := by decide +kernel
theorem dX2_goBy_8 : decode cX2_goBy 8 = .ok (.aload_n 0, 1) := by decide +kernel
theorem dX2_goBy_9 : decode cX2_goBy 9 = .ok (.getfield 36, 3) := by decide +kernel
theorem dX2_goBy_12 : decode cX2_goBy 12 = .ok (.imul, 1) := by decide +kernel
theorem dX2_goBy_13 : decode cX2_goBy 13 = .ok (.iadd, 1) := by decide +kernel
theorem dX2_goBy_14 : decode cX2_goBy 14 = .ok (.putfield 39, 3) := by decide +kernel
theorem dX2_goBy_17 : decode cX2_goBy 17 = .ok (.aload_n 0, 1) := by decide +kernel
theorem dX2_goBy_18 : decode cX2_goBy 18 = .ok (.invokevirtual 75, 3) := by decide +kernel
theorem dX2_goBy_21 : decode cX2_goBy 21 = .ok (.aload_n 0, 1) := by decide +kernel
theorem dX2_goBy_22 : decode cX2_goBy 22 = .ok (.dup, 1) := by decide +kernel
theorem dX2_goBy_23 : decode cX2_goBy 23 = .ok (.getfield 48, 3) := by decide +kernel
theorem dX2_goBy_26 : decode cX2_goBy 26 = .ok (.iconst 1, 1) := by decide +kernel
theorem dX2_goBy_27 : decode cX2_goBy 27 = .ok (.iadd, 1) := by decide +kernel
theorem dX2_goBy_28 : decode cX2_goBy 28 = .ok (.putfield 48, 3) := by decide +kernel
theorem dX2_goBy_31 : decode cX2_goBy 31 = .ok (.return_, 1) := by decide +kernel
set_option maxRecDepth 20000 in
theorem ggX2_writeNumber_X2_goBy : GoodIn wsX2_writeNumber wsX2_goBy := goodIn_r _ [5, 6, 7, 8, 9, 10, 11, 4, 12, 13, 14, 15, 16, 17, 18, 19, 20, 21, 22, 23, 24, 25, 26, 27, 28, 29, 30, 31, 32, 33, 34, 35, 36] (by decide +kernel) (by decide +kernel)
set_option maxRecDepth 20000 in
theorem gX2_writeNumber_X2_goBy : GoodIn wsX2_writeNumber (wsV RX2 78 RX2 yX2_goBy wsX2_goBy) := goodIn_app (goodIn_of _ (by decide +kernel)) ggX2_writeNumber_X2_goBy
theorem dX2_writeNumber_0 : decode cX2_writeNumber 0 = .ok (.iload_n 2, 1) := by decide +kernel
theorem dX2_writeNumber_1 : decode cX2_writeNumber 1 = .ok (.istore_n 3, 1) := by decide +kernel
theorem dX2_writeNumber_2 : decode cX2_writeNumber 2 = .ok (.iload_n 1, 1) := by decide +kernel
theorem dX2_writeNumber_3 : decode cX2_writeNumber 3 = .ok (.istore 4, 2) := by decide +kernel
theorem dX2_writeNumber_5 : decode cX2_writeNumber 5 = .ok (.iload 4, 2) := by decide +kernel
theorem dX2_writeNumber_7 : decode cX2_writeNumber 7 = .ok (.bipush 16, 2) := by decide +kernel
theorem dX2_writeNumber_9 : decode cX2_writeNumber 9 = .ok (.if_icmp .ge 29, 3) := by decide +kernel
theorem dX2_writeNumber_12 : decode cX2_writeNumber 12 = .ok (.iload_n 3, 1) := by decide +kernel
theorem dX2_writeNumber_13 : decode cX2_writeNumber 13 = .ok (.iconst 1, 1) := by decide +kernel
theorem dX2_writeNumber_14 : decode cX2_writeNumber 14 = .ok (.iload 4, 2) := by decide +kernel
theorem dX2_writeNumber_16 : decode cX2_writeNumber 16 = .ok (.ishl, 1) := by decide +kernel
theorem dX2_writeNumber_17 : decode cX2_writeNumber 17 = .ok (.if_icmp .lt 21, 3) := by decide +kernel
theorem dX2_writeNumber_20 : decode cX2_writeNumber 20 = .ok (.aload_n 0, 1) := by decide +kernel
theorem dX2_writeNumber_21 : decode cX2_writeNumber 21 = .ok (.iconst 1, 1) := by decide +kernel
theorem dX2_writeNumber_22 : decode cX2_writeNumber 22 = .ok (.invokevirtual 78, 3) := by decide +kernel
theorem dX2_writeNumber_25 : decode cX2_writeNumber 25 = .ok (.iload_n 3, 1) := by decide +kernel
theorem dX2_writeNumber_26 : decode cX2_writeNumber 26 = .ok (.iconst 1, 1) := by decide +kernel
theorem dX2_writeNumber_27 : decode cX2_writeNumber 27 = .ok (.iload 4, 2) := by decide +kernel
theorem dX2_writeNumber_29 : decode cX2_writeNumber 29 = .ok (.ishl, 1) := by decide +kernel
theorem dX2_writeNumber_30 : decode cX2_writeNumber 30 = .ok (.isub, 1) := by decide +kernel
theorem dX2_writeNumber_31 : decode cX2_writeNumber 31 = .ok (.istore_n 3, 1) := by decide +kernel
theorem dX2_writeNumber_32 : decode cX2_writeNumber 32 = .ok (.iinc 4 1, 3) := by decide +kernel
theorem dX2_writeNumber_35 : decode cX2_writeNumber 35 = .ok (.goto (-30), 3) := by decide +kernel
theorem dX2_writeNumber_38 : decode cX2_writeNumber 38 = .ok (.aload_n 0, 1) := by decide +kernel
theorem dX2_writeNumber_39 : decode cX2_writeNumber 39 = .ok (.iconst 0, 1) := by decide +kernel
theorem dX2_writeNumber_40 : decode cX2_writeNumber 40 = .ok (.invokevirtual 78, 3) := by decide +kernel
theorem dX2_writeNumber_43 : decode cX2_writeNumber 43 = .ok (.iload 4, 2) := by decide +kernel
theorem dX2_writeNumber_45 : decode cX2_writeNumber 45 = .ok (.iconst 1, 1) := by decide +kernel
theorem dX2_writeNumber_46 : decode cX2_writeNumber 46 = .ok (.isub, 1) := by decide +kernel
theorem dX2_writeNumber_47 : decode cX2_writeNumber 47 = .ok (.istore 5, 2) := by decide +kernel
theorem dX2_writeNumber_49 : decode cX2_writeNumber 49 = .ok (.iload 5, 2) := by decide +kernel
theorem dX2_writeNumber_51 : decode cX2_writeNumber 51 = .ok (.ifCond .lt 19, 3) := by decide +kernel
theorem dX2_writeNumber_54 : decode cX2_writeNumber 54 = .ok (.aload_n 0, 1) := by decide +kernel
theorem dX2_writeNumber_55 : decode cX2_writeNumber 55 = .ok (.iload_n 3, 1) := by decide +kernel
theorem dX2_writeNumber_56 : decode cX2_writeNumber 56 = .ok (.iload 5, 2) := by decide +kernel
theorem dX2_writeNumber_58 : decode cX2_writeNumber 58 = .ok (.ishr, 1) := by decide +kernel
theorem dX2_writeNumber_59 : decode cX2_writeNumber 59 = .ok (.iconst 1, 1) := by decide +kernel
theorem dX2_writeNumber_60 : decode cX2_writeNumber 60 = .ok (.iand, 1) := by decide +kernel
theorem dX2_writeNumber_61 : decode cX2_writeNumber 61 = .ok (.invokevirtual 78, 3) := by decide +kernel
theorem dX2_writeNumber_64 : decode cX2_writeNumber 64 = .ok (.iinc 5 (-1), 3) := by decide +kernel
theorem dX2_writeNumber_67 : decode cX2_writeNumber 67 = .ok (.goto (-18), 3) := by decide +kernel
theorem dX2_writeNumber_70 : decode cX2_writeNumber 70 = .ok (.return_, 1) := by decide +kernel
set_option maxRecDepth 20000 in
theorem ggX2_writeCount_X3_contextOfCount : GoodIn wsX2_writeCount wsX3_contextOfCount := goodIn_r _ [3, 4, 5, 6, 7] (by decide +kernel) (by decide +kernel)
set_option maxRecDepth 20000 in
theorem gX2_writeCount_X3_contextOfCount_n82 : GoodIn wsX2_writeCount (wsX3_contextOfCount) := ggX2_writeCount_X3_contextOfCount
set_option maxRecDepth 20000 in
theorem ggX2_writeCount_X2_decide : GoodIn wsX2_writeCount wsX2_decide := goodIn_r _ [12, 13, 14, 15, 16, 17, 18, 19, 20, 21, 22, 23, 24, 25, 26, 27, 28, 29, 5, 6, 7, 30, 31, 32, 11, 33, 34, 35, 36, 37, 38, 39, 40, 41, 42, 43, 44, 45, 46, 47, 48, 49, 50, 51, 52, 53, 54, 55, 56, 57, 58, 59, 60, 61, 62, 63] (by decide +kernel) (by decide +kernel)
set_option maxRecDepth 20000 in
theorem gX2_writeCount_X2_decide : GoodIn wsX2_writeCount (wsV RX2 85 RX2 yX2_decide wsX2_decide) := goodIn_app (goodIn_of _ (by decide +kernel)) ggX2_writeCount_X2_decide
theorem dX2_writeCount_0 : decode cX2_writeCount 0 = .ok (.iconst 0, 1) := by decide +kernel
theorem dX2_writeCount_1 : decode cX2_writeCount 1 = .ok (.istore 4, 2) := by decide +kernel
theorem dX2_writeCount_3 : decode cX2_writeCount 3 = .ok (.iload 4, 2) := by decide +kernel
theorem dX2_writeCount_5 : decode cX2_writeCount 5 = .ok (.iload_n 2, 1) := by decide +kernel
theorem dX2_writeCount_6 : decode cX2_writeCount 6 = .ok (.if_icmp .ge 30, 3) := by decide +kernel
theorem dX2_writeCount_9 : decode cX2_writeCount 9 = .ok (.aload_n 0, 1) := by decide +kernel
theorem dX2_writeCount_10 : decode cX2_writeCount 10 = .ok (.iload_n 1, 1) := by decide +kernel
theorem dX2_writeCount_11 : decode cX2_writeCount 11 = .ok (.iload 4, 2) := by decide +kernel
theorem dX2_writeCount_13 : decode cX2_writeCount 13 = .ok (.invokestatic 82, 3) := by decide +kernel
theorem dX2_writeCount_16 : decode cX2_writeCount 16 = .ok (.iload 4, 2) := by decide +kernel
theorem dX2_writeCount_18 : decode cX2_writeCount 18 = .ok (.iload_n 3, 1) := by decide +kernel
theorem dX2_writeCount_19 : decode cX2_writeCount 19 = .ok (.if_icmp .ge 7, 3) := by decide +kernel
theorem dX2_writeCount_22 : decode cX2_writeCount 22 = .ok (.iconst 1, 1) := by decide +kernel
theorem dX2_writeCount_23 : decode cX2_writeCount 23 = .ok (.goto 4, 3) := by decide +kernel
theorem dX2_writeCount_26 : decode cX2_writeCount 26 = .ok (.iconst 0, 1) := by decide +kernel
theorem dX2_writeCount_27 : decode cX2_writeCount 27 = .ok (.invokevirtual 85, 3) := by decide +kernel
theorem dX2_writeCount_30 : decode cX2_writeCount 30 = .ok (.iinc 4 1, 3) := by decide +kernel
theorem dX2_writeCount_33 : decode cX2_writeCount 33 = .ok (.goto (-30), 3) := by decide +kernel
theorem dX2_writeCount_36 : decode cX2_writeCount 36 = .ok (.return_, 1) := by decide +kernel
set_option maxRecDepth 20000 in
theorem ggX2_writeMark_X2_shift : GoodIn wsX2_writeMark wsX2_shift := goodIn_r _ [7, 1, 8, 9, 10, 11, 6, 12, 13, 14, 15, 16, 17, 18, 19, 20, 21, 22, 23, 24, 25, 26, 27, 28, 29, 30, 31, 32, 33, 34, 35, 36] (by decide +kernel) (by decide +kernel)
set_option maxRecDepth 20000 in
theorem gX2_writeMark_X2_shift : GoodIn wsX2_writeMark (wsV RX2 72 RX2 yX2_shift wsX2_shift) := goodIn_app (goodIn_of _ (by decide +kernel)) ggX2_writeMark_X2_shift
theorem dX2_writeMark_0 : decode cX2_writeMark 0 = .ok (.aload_n 0, 1) := by decide +kernel
theorem dX2_writeMark_1 : decode cX2_writeMark 1 = .ok (.dup, 1) := by decide +kernel
theorem dX2_writeMark_2 : decode cX2_writeMark 2 = .ok (.getfield 36, 3) := by decide +kernel
theorem dX2_writeMark_5 : decode cX2_writeMark 5 = .ok (.iconst 2, 1) := by decide +kernel
theorem dX2_writeMark_6 : decode cX2_writeMark 6 = .ok (.isub, 1) := by decide +kernel
theorem dX2_writeMark_7 : decode cX2_writeMark 7 = .ok (.putfield 36, 3) := by decide +kernel
theorem dX2_writeMark_10 : decode cX2_writeMark 10 = .ok (.aload_n 0, 1) := by decide +kernel
theorem dX2_writeMark_11 : decode cX2_writeMark 11 = .ok (.invokevirtual 72, 3) := by decide +kernel
theorem dX2_writeMark_14 : decode cX2_writeMark 14 = .ok (.aload_n 0, 1) := by decide +kernel
theorem dX2_writeMark_15 : decode cX2_writeMark 15 = .ok (.dup, 1) := by decide +kernel
theorem dX2_writeMark_16 : decode cX2_writeMark 16 = .ok (.getfield 48, 3) := by decide +kernel
theorem dX2_writeMark_19 : decode cX2_writeMark 19 = .ok (.iconst 1, 1) := by decide +kernel
theorem dX2_writeMark_20 : decode cX2_writeMark 20 = .ok (.iadd, 1) := by decide +kernel
theorem dX2_writeMark_21 : decode cX2_writeMark 21 = .ok (.putfield 48, 3) := by decide +kernel
theorem dX2_writeMark_24 : decode cX2_writeMark 24 = .ok (.return_, 1) := by decide +kernel
set_option maxRecDepth 20000 in
theorem ggX2_end_X2_shift : GoodIn wsX2_end wsX2_shift := goodIn_r _ [10, 1, 2, 11, 12, 13, 9, 14, 15, 16, 17, 18, 19, 20, 21, 22, 23, 24, 25, 3, 26, 27, 28, 29, 30, 31, 32, 33, 34, 35, 36, 37] (by decide +kernel) (by decide +kernel)
set_option maxRecDepth 20000 in
theorem gX2_end_X2_shift : GoodIn wsX2_end (wsV RX2 72 RX2 yX2_shift wsX2_shift) := goodIn_app (goodIn_of _ (by decide +kernel)) ggX2_end_X2_shift
set_option maxRecDepth 20000 in
theorem ggX2_end_X2_give : GoodIn wsX2_end wsX2_give := goodIn_r _ [20, 21, 15, 22, 23, 24, 9, 25, 3, 26, 27, 28, 29, 30, 31, 32, 33, 34, 35, 36, 37] (by decide +kernel) (by decide +kernel)
set_option maxRecDepth 20000 in
theorem gX2_end_X2_give : GoodIn wsX2_end (wsV RX2 88 RX2 yX2_give wsX2_give) := goodIn_app (goodIn_of _ (by decide +kernel)) ggX2_end_X2_give
set_option maxRecDepth 20000 in
theorem ggX2_end_X2_write : GoodIn wsX2_end wsX2_write := goodIn_r _ [25, 3, 26, 27, 28, 29, 30, 31, 32, 33, 34, 35, 36, 37] (by decide +kernel) (by decide +kernel)
set_option maxRecDepth 20000 in
theorem gX2_end_X2_write : GoodIn wsX2_end (wsV RX2 91 RX2 yX2_write wsX2_write) := goodIn_app (goodIn_of _ (by decide +kernel)) ggX2_end_X2_write
theorem dX2_end_0 : decode cX2_end 0 = .ok (.aload_n 0, 1) := by decide +kernel
theorem dX2_end_1 : decode cX2_end 1 = .ok (.dup, 1) := by decide +kernel
theorem dX2_end_2 : decode cX2_end 2 = .ok (.getfield 36, 3) := by decide +kernel
theorem dX2_end_5 : decode cX2_end 5 = .ok (.iconst 2, 1) := by decide +kernel
theorem dX2_end_6 : decode cX2_end 6 = .ok (.isub, 1) := by decide +kernel
theorem dX2_end_7 : decode cX2_end 7 = .ok (.putfield 36, 3) := by decide +kernel
theorem dX2_end_10 : decode cX2_end 10 = .ok (.aload_n 0, 1) := by decide +kernel
theorem dX2_end_11 : decode cX2_end 11 = .ok (.dup, 1) := by decide +kernel
theorem dX2_end_12 : decode cX2_end 12 = .ok (.getfield 39, 3) := by decide +kernel
theorem dX2_end_15 : decode cX2_end 15 = .ok (.aload_n 0, 1) := by decide +kernel
theorem dX2_end_16 : decode cX2_end 16 = .ok (.getfield 36, 3) := by decide +kernel
theorem dX2_end_19 : decode cX2_end 19 = .ok (.iadd, 1) := by decide +kernel
theorem dX2_end_20 : decode cX2_end 20 = .ok (.putfield 39, 3) := by decide +kernel
theorem dX2_end_23 : decode cX2_end 23 = .ok (.aload_n 0, 1) := by decide +kernel
theorem dX2_end_24 : decode cX2_end 24 = .ok (.iconst 2, 1) := by decide +kernel
theorem dX2_end_25 : decode cX2_end 25 = .ok (.putfield 36, 3) := by decide +kernel
theorem dX2_end_28 : decode cX2_end 28 = .ok (.aload_n 0, 1) := by decide +kernel
theorem dX2_end_29 : decode cX2_end 29 = .ok (.invokevirtual 72, 3) := by decide +kernel
theorem dX2_end_32 : decode cX2_end 32 = .ok (.aload_n 0, 1) := by decide +kernel
theorem dX2_end_33 : decode cX2_end 33 = .ok (.aload_n 0, 1) := by decide +kernel
theorem dX2_end_34 : decode cX2_end 34 = .ok (.getfield 39, 3) := by decide +kernel
theorem dX2_end_37 : decode cX2_end 37 = .ok (.sipush 512, 3) := by decide +kernel
theorem dX2_end_40 : decode cX2_end 40 = .ok (.idiv, 1) := by decide +kernel
theorem dX2_end_41 : decode cX2_end 41 = .ok (.iconst 2, 1) := by decide +kernel
theorem dX2_end_42 : decode cX2_end 42 = .ok (.irem, 1) := by decide +kernel
theorem dX2_end_43 : decode cX2_end 43 = .ok (.invokevirtual 88, 3) := by decide +kernel
theorem dX2_end_46 : decode cX2_end 46 = .ok (.aload_n 0, 1) := by decide +kernel
theorem dX2_end_47 : decode cX2_end 47 = .ok (.aload_n 0, 1) := by decide +kernel
theorem dX2_end_48 : decode cX2_end 48 = .ok (.getfield 39, 3) := by decide +kernel
theorem dX2_end_51 : decode cX2_end 51 = .ok (.sipush 256, 3) := by decide +kernel
theorem dX2_end_54 : decode cX2_end 54 = .ok (.idiv, 1) := by decide +kernel
theorem dX2_end_55 : decode cX2_end 55 = .ok (.iconst 2, 1) := by decide +kernel
theorem dX2_end_56 : decode cX2_end 56 = .ok (.irem, 1) := by decide +kernel
theorem dX2_end_57 : decode cX2_end 57 = .ok (.invokevirtual 91, 3) := by decide +kernel
theorem dX2_end_60 : decode cX2_end 60 = .ok (.aload_n 0, 1) := by decide +kernel
theorem dX2_end_61 : decode cX2_end 61 = .ok (.iconst 1, 1) := by decide +kernel
theorem dX2_end_62 : decode cX2_end 62 = .ok (.invokevirtual 91, 3) := by decide +kernel
theorem dX2_end_65 : decode cX2_end 65 = .ok (.aload_n 0, 1) := by decide +kernel
theorem dX2_end_66 : decode cX2_end 66 = .ok (.aload_n 0, 1) := by decide +kernel
theorem dX2_end_67 : decode cX2_end 67 = .ok (.getfield 55, 3) := by decide +kernel
theorem dX2_end_70 : decode cX2_end 70 = .ok (.bipush 7, 2) := by decide +kernel
theorem dX2_end_72 : decode cX2_end 72 = .ok (.iadd, 1) := by decide +kernel
theorem dX2_end_73 : decode cX2_end 73 = .ok (.bipush 8, 2) := by decide +kernel
theorem dX2_end_75 : decode cX2_end 75 = .ok (.idiv, 1) := by decide +kernel
theorem dX2_end_76 : decode cX2_end 76 = .ok (.putfield 32, 3) := by decide +kernel
theorem dX2_end_79 : decode cX2_end 79 = .ok (.aload_n 0, 1) := by decide +kernel
theorem dX2_end_80 : decode cX2_end 80 = .ok (.iconst 0, 1) := by decide +kernel
theorem dX2_end_81 : decode cX2_end 81 = .ok (.putfield 51, 3) := by decide +kernel
theorem dX2_end_84 : decode cX2_end 84 = .ok (.return_, 1) := by decide +kernel
set_option maxRecDepth 20000 in
theorem ggX2_shift_X2_settleTopBit : GoodIn wsX2_shift wsX2_settleTopBit := goodIn_r _ [7, 2, 8, 9, 10, 11, 12, 6, 13, 14, 15, 16, 17, 18, 19, 20, 21, 22, 23, 24, 25, 26, 27, 28, 29, 30, 31] (by decide +kernel) (by decide +kernel)
set_option maxRecDepth 20000 in
theorem gX2_shift_X2_settleTopBit : GoodIn wsX2_shift (wsV RX2 75 RX2 yX2_settleTopBit wsX2_settleTopBit) := goodIn_app (goodIn_of _ (by decide +kernel)) ggX2_shift_X2_settleTopBit
theorem dX2_shift_0 : decode cX2_shift 0 = .ok (.iconst 0, 1) := by decide +kernel
theorem dX2_shift_1 : decode cX2_shift 1 = .ok (.istore_n 1, 1) := by decide +kernel
theorem dX2_shift_2 : decode cX2_shift 2 = .ok (.iload_n 1, 1) := by decide +kernel
theorem dX2_shift_3 : decode cX2_shift 3 = .ok (.bipush 7, 2) := by decide +kernel
theorem dX2_shift_5 : decode cX2_shift 5 = .ok (.if_icmp .ge 43, 3) := by decide +kernel
theorem dX2_shift_8 : decode cX2_shift 8 = .ok (.aload_n 0, 1) := by decide +kernel
theorem dX2_shift_9 : decode cX2_shift 9 = .ok (.getfield 36, 3) := by decide +kernel
theorem dX2_shift_12 : decode cX2_shift 12 = .ok (.sipush 256, 3) := by decide +kernel
theorem dX2_shift_15 : decode cX2_shift 15 = .ok (.if_icmp .ge 33, 3) := by decide +kernel
theorem dX2_shift_18 : decode cX2_shift 18 = .ok (.aload_n 0, 1) := by decide +kernel
theorem dX2_shift_19 : decode cX2_shift 19 = .ok (.dup, 1) := by decide +kernel
theorem dX2_shift_20 : decode cX2_shift 20 = .ok (.getfield 36, 3) := by decide +kernel
theorem dX2_shift_23 : decode cX2_shift 23 = .ok (.iconst 2, 1) := by decide +kernel
theorem dX2_shift_24 : decode cX2_shift 24 = .ok (.imul, 1) := by decide +kernel
theorem dX2_shift_25 : decode cX2_shift 25 = .ok (.putfield 36, 3) := by decide +kernel
theorem dX2_shift_28 : decode cX2_shift 28 = .ok (.aload_n 0, 1) := by decide +kernel
theorem dX2_shift_29 : decode cX2_shift 29 = .ok (.dup, 1) := by decide +kernel
theorem dX2_shift_30 : decode cX2_shift 30 = .ok (.getfield 39, 3) := by decide +kernel
theorem dX2_shift_33 : decode cX2_shift 33 = .ok (.iconst 2, 1) := by decide +kernel
theorem dX2_shift_34 : decode cX2_shift 34 = .ok (.imul, 1) := by decide +kernel
theorem dX2_shift_35 : decode cX2_shift 35 = .ok (.putfield 39, 3) := by decide +kernel
theorem dX2_shift_38 : decode cX2_shift 38 = .ok (.aload_n 0, 1) := by decide +kernel
theorem dX2_shift_39 : decode cX2_shift 39 = .ok (.invokevirtual 75, 3) := by decide +kernel
theorem dX2_shift_42 : decode cX2_shift 42 = .ok (.iinc 1 1, 3) := by decide +kernel
theorem dX2_shift_45 : decode cX2_shift 45 = .ok (.goto (-43), 3) := by decide +kernel
theorem dX2_shift_48 : decode cX2_shift 48 = .ok (.return_, 1) := by decide +kernel
set_option maxRecDepth 20000 in
theorem ggX2_settleTopBit_X2_give : GoodIn wsX2_settleTopBit wsX2_give := goodIn_r _ [8, 9, 2, 10, 11, 12, 7, 13, 14, 15, 16, 17, 18, 19, 20, 21, 22, 23, 24, 25, 26] (by decide +kernel) (by decide +kernel)
set_option maxRecDepth 20000 in
theorem gX2_settleTopBit_X2_give : GoodIn wsX2_settleTopBit (wsV RX2 88 RX2 yX2_give wsX2_give) := goodIn_app (goodIn_of _ (by decide +kernel)) ggX2_settleTopBit_X2_give
theorem dX2_settleTopBit_0 : decode cX2_settleTopBit 0 = .ok (.aload_n 0, 1) := by decide +kernel
theorem dX2_settleTopBit_1 : decode cX2_settleTopBit 1 = .ok (.getfield 39, 3) := by decide +kernel
theorem dX2_settleTopBit_4 : decode cX2_settleTopBit 4 = .ok (.sipush 1024, 3) := by decide +kernel
theorem dX2_settleTopBit_7 : decode cX2_settleTopBit 7 = .ok (.if_icmp .lt 23, 3) := by decide +kernel
theorem dX2_settleTopBit_10 : decode cX2_settleTopBit 10 = .ok (.aload_n 0, 1) := by decide +kernel
theorem dX2_settleTopBit_11 : decode cX2_settleTopBit 11 = .ok (.dup, 1) := by decide +kernel
theorem dX2_settleTopBit_12 : decode cX2_settleTopBit 12 = .ok (.getfield 39, 3) := by decide +kernel
theorem dX2_settleTopBit_15 : decode cX2_settleTopBit 15 = .ok (.sipush 1024, 3) := by decide +kernel
theorem dX2_settleTopBit_18 : decode cX2_settleTopBit 18 = .ok (.isub, 1) := by decide +kernel
theorem dX2_settleTopBit_19 : decode cX2_settleTopBit 19 = .ok (.putfield 39, 3) := by decide +kernel
theorem dX2_settleTopBit_22 : decode cX2_settleTopBit 22 = .ok (.aload_n 0, 1) := by decide +kernel
theorem dX2_settleTopBit_23 : decode cX2_settleTopBit 23 = .ok (.iconst 1, 1) := by decide +kernel
theorem dX2_settleTopBit_24 : decode cX2_settleTopBit 24 = .ok (.invokevirtual 88, 3) := by decide +kernel
theorem dX2_settleTopBit_27 : decode cX2_settleTopBit 27 = .ok (.goto 43, 3) := by decide +kernel
theorem dX2_settleTopBit_30 : decode cX2_settleTopBit 30 = .ok (.aload_n 0, 1) := by decide +kernel
theorem dX2_settleTopBit_31 : decode cX2_settleTopBit 31 = .ok (.getfield 39, 3) := by decide +kernel
theorem dX2_settleTopBit_34 : decode cX2_settleTopBit 34 = .ok (.sipush 512, 3) := by decide +kernel
theorem dX2_settleTopBit_37 : decode cX2_settleTopBit 37 = .ok (.if_icmp .ge 11, 3) := by decide +kernel
theorem dX2_settleTopBit_40 : decode cX2_settleTopBit 40 = .ok (.aload_n 0, 1) := by decide +kernel
theorem dX2_settleTopBit_41 : decode cX2_settleTopBit 41 = .ok (.iconst 0, 1) := by decide +kernel
theorem dX2_settleTopBit_42 : decode cX2_settleTopBit 42 = .ok (.invokevirtual 88, 3) := by decide +kernel
theorem dX2_settleTopBit_45 : decode cX2_settleTopBit 45 = .ok (.goto 25, 3) := by decide +kernel
theorem dX2_settleTopBit_48 : decode cX2_settleTopBit 48 = .ok (.aload_n 0, 1) := by decide +kernel
theorem dX2_settleTopBit_49 : decode cX2_settleTopBit 49 = .ok (.dup, 1) := by decide +kernel
theorem dX2_settleTopBit_50 : decode cX2_settleTopBit 50 = .ok (.getfield 39, 3) := by decide +kernel
theorem dX2_settleTopBit_53 : decode cX2_settleTopBit 53 = .ok (.sipush 512, 3) := by decide +kernel
theorem dX2_settleTopBit_56 : decode cX2_settleTopBit 56 = .ok (.isub, 1) := by decide +kernel
theorem dX2_settleTopBit_57 : decode cX2_settleTopBit 57 = .ok (.putfield 39, 3) := by decide +kernel
theorem dX2_settleTopBit_60 : decode cX2_settleTopBit 60 = .ok (.aload_n 0, 1) := by decide +kernel
theorem dX2_settleTopBit_61 : decode cX2_settleTopBit 61 = .ok (.dup, 1) := by decide +kernel
theorem dX2_settleTopBit_62 : decode cX2_settleTopBit 62 = .ok (.getfield 42, 3) := by decide +kernel
theorem dX2_settleTopBit_65 : decode cX2_settleTopBit 65 = .ok (.iconst 1, 1) := by decide +kernel
theorem dX2_settleTopBit_66 : decode cX2_settleTopBit 66 = .ok (.iadd, 1) := by decide +kernel
theorem dX2_settleTopBit_67 : decode cX2_settleTopBit 67 = .ok (.putfield 42, 3) := by decide +kernel
theorem dX2_settleTopBit_70 : decode cX2_settleTopBit 70 = .ok (.aload_n 0, 1) := by decide +kernel
theorem dX2_settleTopBit_71 : decode cX2_settleTopBit 71 = .ok (.dup, 1) := by decide +kernel
theorem dX2_settleTopBit_72 : decode cX2_settleTopBit 72 = .ok (.getfield 45, 3) := by decide +kernel
theorem dX2_settleTopBit_75 : decode cX2_settleTopBit 75 = .ok (.iconst 1, 1) := by decide +kernel
theorem dX2_settleTopBit_76 : decode cX2_settleTopBit 76 = .ok (.iadd, 1) := by decide +kernel
theorem dX2_settleTopBit_77 : decode cX2_settleTopBit 77 = .ok (.putfield 45, 3) := by decide +kernel
theorem dX2_settleTopBit_80 : decode cX2_settleTopBit 80 = .ok (.return_, 1) := by decide +kernel
set_option maxRecDepth 20000 in
theorem ggX2_give_X2_write : GoodIn wsX2_give wsX2_write := goodIn_r _ [7, 8, 9, 10, 11, 12, 13, 14, 15, 16, 17, 18, 19, 20] (by decide +kernel) (by decide +kernel)
set_option maxRecDepth 20000 in
theorem gX2_give_X2_write : GoodIn wsX2_give (wsV RX2 91 RX2 yX2_write wsX2_write) := goodIn_app (goodIn_of _ (by decide +kernel)) ggX2_give_X2_write
theorem dX2_give_0 : decode cX2_give 0 = .ok (.aload_n 0, 1) := by decide +kernel
theorem dX2_give_1 : decode cX2_give 1 = .ok (.getfield 58, 3) := by decide +kernel
theorem dX2_give_4 : decode cX2_give 4 = .ok (.ifCond .eq 8, 3) := by decide +kernel
theorem dX2_give_7 : decode cX2_give 7 = .ok (.aload_n 0, 1) := by decide +kernel
theorem dX2_give_8 : decode cX2_give 8 = .ok (.iload_n 1, 1) := by decide +kernel
theorem dX2_give_9 : decode cX2_give 9 = .ok (.invokevirtual 91, 3) := by decide +kernel
theorem dX2_give_12 : decode cX2_give 12 = .ok (.aload_n 0, 1) := by decide +kernel
theorem dX2_give_13 : decode cX2_give 13 = .ok (.iconst 1, 1) := by decide +kernel
theorem dX2_give_14 : decode cX2_give 14 = .ok (.putfield 58, 3) := by decide +kernel
theorem dX2_give_17 : decode cX2_give 17 = .ok (.iconst 0, 1) := by decide +kernel
theorem dX2_give_18 : decode cX2_give 18 = .ok (.istore_n 2, 1) := by decide +kernel
theorem dX2_give_19 : decode cX2_give 19 = .ok (.iload_n 2, 1) := by decide +kernel
theorem dX2_give_20 : decode cX2_give 20 = .ok (.aload_n 0, 1) := by decide +kernel
theorem dX2_give_21 : decode cX2_give 21 = .ok (.getfield 42, 3) := by decide +kernel
theorem dX2_give_24 : decode cX2_give 24 = .ok (.if_icmp .ge 16, 3) := by decide +kernel
theorem dX2_give_27 : decode cX2_give 27 = .ok (.aload_n 0, 1) := by decide +kernel
theorem dX2_give_28 : decode cX2_give 28 = .ok (.iconst 1, 1) := by decide +kernel
theorem dX2_give_29 : decode cX2_give 29 = .ok (.iload_n 1, 1) := by decide +kernel
theorem dX2_give_30 : decode cX2_give 30 = .ok (.isub, 1) := by decide +kernel
theorem dX2_give_31 : decode cX2_give 31 = .ok (.invokevirtual 91, 3) := by decide +kernel
theorem dX2_give_34 : decode cX2_give 34 = .ok (.iinc 2 1, 3) := by decide +kernel
theorem dX2_give_37 : decode cX2_give 37 = .ok (.goto (-18), 3) := by decide +kernel
theorem dX2_give_40 : decode cX2_give 40 = .ok (.aload_n 0, 1) := by decide +kernel
theorem dX2_give_41 : decode cX2_give 41 = .ok (.iconst 0, 1) := by decide +kernel
theorem dX2_give_42 : decode cX2_give 42 = .ok (.putfield 42, 3) := by decide +kernel
theorem dX2_give_45 : decode cX2_give 45 = .ok (.return_, 1) := by decide +kernel
theorem dX2_write_0 : decode cX2_write 0 = .ok (.aload_n 0, 1) := by decide +kernel
theorem dX2_write_1 : decode cX2_write 1 = .ok (.getfield 55, 3) := by decide +kernel
theorem dX2_write_4 : decode cX2_write 4 = .ok (.bipush 8, 2) := by decide +kernel
theorem dX2_write_6 : decode cX2_write 6 = .ok (.idiv, 1) := by decide +kernel
theorem dX2_write_7 : decode cX2_write 7 = .ok (.istore_n 2, 1) := by decide +kernel
theorem dX2_write_8 : decode cX2_write 8 = .ok (.iload_n 2, 1) := by decide +kernel
theorem dX2_write_9 : decode cX2_write 9 = .ok (.sipush 302, 3) := by decide +kernel
theorem dX2_write_12 : decode cX2_write 12 = .ok (.if_icmp .ge 34, 3) := by decide +kernel
theorem dX2_write_15 : decode cX2_write 15 = .ok (.aload_n 0, 1) := by decide +kernel
theorem dX2_write_16 : decode cX2_write 16 = .ok (.getfield 18, 3) := by decide +kernel
theorem dX2_write_19 : decode cX2_write 19 = .ok (.iload_n 2, 1) := by decide +kernel
theorem dX2_write_20 : decode cX2_write 20 = .ok (.dup2, 1) := by decide +kernel
theorem dX2_write_21 : decode cX2_write 21 = .ok (.iaload, 1) := by decide +kernel
theorem dX2_write_22 : decode cX2_write 22 = .ok (.iload_n 1, 1) := by decide +kernel
theorem dX2_write_23 : decode cX2_write 23 = .ok (.bipush 7, 2) := by decide +kernel
theorem dX2_write_25 : decode cX2_write 25 = .ok (.aload_n 0, 1) := by decide +kernel
theorem dX2_write_26 : decode cX2_write 26 = .ok (.getfield 55, 3) := by decide +kernel
theorem dX2_write_29 : decode cX2_write 29 = .ok (.bipush 8, 2) := by decide +kernel
theorem dX2_write_31 : decode cX2_write 31 = .ok (.irem, 1) := by decide +kernel
theorem dX2_write_32 : decode cX2_write 32 = .ok (.isub, 1) := by decide +kernel
theorem dX2_write_33 : decode cX2_write 33 = .ok (.ishl, 1) := by decide +kernel
theorem dX2_write_34 : decode cX2_write 34 = .ok (.ior, 1) := by decide +kernel
theorem dX2_write_35 : decode cX2_write 35 = .ok (.iastore, 1) := by decide +kernel
theorem dX2_write_36 : decode cX2_write 36 = .ok (.aload_n 0, 1) := by decide +kernel
theorem dX2_write_37 : decode cX2_write 37 = .ok (.dup, 1) := by decide +kernel
theorem dX2_write_38 : decode cX2_write 38 = .ok (.getfield 55, 3) := by decide +kernel
theorem dX2_write_41 : decode cX2_write 41 = .ok (.iconst 1, 1) := by decide +kernel
theorem dX2_write_42 : decode cX2_write 42 = .ok (.iadd, 1) := by decide +kernel
theorem dX2_write_43 : decode cX2_write 43 = .ok (.putfield 55, 3) := by decide +kernel
theorem dX2_write_46 : decode cX2_write 46 = .ok (.return_, 1) := by decide +kernel
set_option maxRecDepth 20000 in
theorem ggX3_init_X0_init : GoodIn wsX3_init wsX0_init := goodIn_r _ [17, 18, 2, 3, 19, 20, 21, 34, 35] (by decide +kernel) (by decide +kernel)
set_option maxRecDepth 20000 in
theorem gX3_init_X0_init_n9 : GoodIn wsX3_init (wsX0_init) := ggX3_init_X0_init
set_option maxRecDepth 20000 in
theorem ggX3_init_X2_init : GoodIn wsX3_init wsX2_init := goodIn_r _ [23, 24, 2, 3, 25, 5, 6, 26, 19, 27, 16, 17, 18, 20, 21, 34, 35, 39, 40, 41, 42, 43, 44, 45, 46, 47, 48, 49] (by decide +kernel) (by decide +kernel)
set_option maxRecDepth 20000 in
theorem gX3_init_X2_init_n18 : GoodIn wsX3_init (wsX2_init) := ggX3_init_X2_init
set_option maxRecDepth 20000 in
theorem ggX3_init_X1_init : GoodIn wsX3_init wsX1_init := goodIn_r _ [29, 30, 2, 3, 31, 5, 6, 32, 19, 33, 16, 17, 18, 20, 21, 34, 35, 50, 51, 52, 53, 54, 55, 56] (by decide +kernel) (by decide +kernel)
set_option maxRecDepth 20000 in
theorem gX3_init_X1_init_n25 : GoodIn wsX3_init (wsX1_init) := ggX3_init_X1_init
theorem dX3_init_0 : decode cX3_init 0 = .ok (.aload_n 0, 1) := by decide +kernel
theorem dX3_init_1 : decode cX3_init 1 = .ok (.invokespecial 1, 3) := by decide +kernel
theorem dX3_init_4 : decode cX3_init 4 = .ok (.aload_n 0, 1) := by decide +kernel
theorem dX3_init_5 : decode cX3_init 5 = .ok (.new 7, 3) := by decide +kernel
theorem dX3_init_8 : decode cX3_init 8 = .ok (.dup, 1) := by decide +kernel
theorem dX3_init_9 : decode cX3_init 9 = .ok (.invokespecial 9, 3) := by decide +kernel
theorem dX3_init_12 : decode cX3_init 12 = .ok (.putfield 10, 3) := by decide +kernel
theorem dX3_init_15 : decode cX3_init 15 = .ok (.aload_n 0, 1) := by decide +kernel
theorem dX3_init_16 : decode cX3_init 16 = .ok (.new 16, 3) := by decide +kernel
theorem dX3_init_19 : decode cX3_init 19 = .ok (.dup, 1) := by decide +kernel
theorem dX3_init_20 : decode cX3_init 20 = .ok (.invokespecial 18, 3) := by decide +kernel
theorem dX3_init_23 : decode cX3_init 23 = .ok (.putfield 19, 3) := by decide +kernel
theorem dX3_init_26 : decode cX3_init 26 = .ok (.aload_n 0, 1) := by decide +kernel
theorem dX3_init_27 : decode cX3_init 27 = .ok (.new 23, 3) := by decide +kernel
theorem dX3_init_30 : decode cX3_init 30 = .ok (.dup, 1) := by decide +kernel
theorem dX3_init_31 : decode cX3_init 31 = .ok (.invokespecial 25, 3) := by decide +kernel
theorem dX3_init_34 : decode cX3_init 34 = .ok (.putfield 26, 3) := by decide +kernel
theorem dX3_init_37 : decode cX3_init 37 = .ok (.return_, 1) := by decide +kernel
set_option maxRecDepth 20000 in
theorem ggX3_set_X3_checkContext : GoodIn wsX3_set wsX3_checkContext := goodIn_ca (goodIn_r _ [9, 10, 11] (by decide +kernel) (by decide +kernel)) (goodIn_sub (fun _ h => List.mem_cons_of_mem _ (List.mem_append_right _ h)) (by decide +kernel))
set_option maxRecDepth 20000 in
theorem gX3_set_X3_checkContext : GoodIn wsX3_set (va_wsS RX3 30 yX3_checkContext wsX3_checkContext) := goodIn_app (goodIn_of _ (by decide +kernel)) ggX3_set_X3_checkContext
set_option maxRecDepth 20000 in
theorem ggX3_set_X3_checkBin : GoodIn wsX3_set wsX3_checkBin := goodIn_ca (goodIn_r _ [14, 1, 2] (by decide +kernel) (by decide +kernel)) (goodIn_sub (fun _ h => List.mem_cons_of_mem _ (List.mem_append_left _ (List.mem_append_right _ h))) (by decide +kernel))
set_option maxRecDepth 20000 in
theorem gX3_set_X3_checkBin : GoodIn wsX3_set (va_wsS RX3 41 yX3_checkBin wsX3_checkBin) := goodIn_app (goodIn_of _ (by decide +kernel)) ggX3_set_X3_checkBin
theorem dX3_set_0 : decode cX3_set 0 = .ok (.iload_n 1, 1) := by decide +kernel
theorem dX3_set_1 : decode cX3_set 1 = .ok (.invokestatic 30, 3) := by decide +kernel
theorem dX3_set_4 : decode cX3_set 4 = .ok (.iload_n 2, 1) := by decide +kernel
theorem dX3_set_5 : decode cX3_set 5 = .ok (.ifCond .lt 9, 3) := by decide +kernel
theorem dX3_set_8 : decode cX3_set 8 = .ok (.iload_n 2, 1) := by decide +kernel
theorem dX3_set_9 : decode cX3_set 9 = .ok (.bipush 62, 2) := by decide +kernel
