theorem dX3_checkNumber_1 : decode cX3_checkNumber 1 = .ok (.ifCond .eq 9, 3) := by decide +kernel
theorem dX3_checkNumber_4 : decode cX3_checkNumber 4 = .ok (.sipush (-32767), 3) := by decide +kernel
theorem dX3_checkNumber_7 : decode cX3_checkNumber 7 = .ok (.goto 4, 3) := by decide +kernel
theorem dX3_checkNumber_10 : decode cX3_checkNumber 10 = .ok (.iconst 0, 1) := by decide +kernel
theorem dX3_checkNumber_11 : decode cX3_checkNumber 11 = .ok (.istore_n 2, 1) := by decide +kernel
theorem dX3_checkNumber_12 : decode cX3_checkNumber 12 = .ok (.iload_n 0, 1) := by decide +kernel
theorem dX3_checkNumber_13 : decode cX3_checkNumber 13 = .ok (.ifCond .eq 8, 3) := by decide +kernel
theorem dX3_checkNumber_16 : decode cX3_checkNumber 16 = .ok (.ldc 182, 2) := by decide +kernel
theorem dX3_checkNumber_18 : decode cX3_checkNumber 18 = .ok (.goto 5, 3) := by decide +kernel
theorem dX3_checkNumber_21 : decode cX3_checkNumber 21 = .ok (.ldc 183, 2) := by decide +kernel
theorem dX3_checkNumber_23 : decode cX3_checkNumber 23 = .ok (.istore_n 3, 1) := by decide +kernel
theorem dX3_checkNumber_24 : decode cX3_checkNumber 24 = .ok (.iload_n 1, 1) := by decide +kernel
theorem dX3_checkNumber_25 : decode cX3_checkNumber 25 = .ok (.iload_n 2, 1) := by decide +kernel
theorem dX3_checkNumber_26 : decode cX3_checkNumber 26 = .ok (.if_icmp .lt 8, 3) := by decide +kernel
theorem dX3_checkNumber_29 : decode cX3_checkNumber 29 = .ok (.iload_n 1, 1) := by decide +kernel
theorem dX3_checkNumber_30 : decode cX3_checkNumber 30 = .ok (.iload_n 3, 1) := by decide +kernel
theorem dX3_checkNumber_31 : decode cX3_checkNumber 31 = .ok (.if_icmp .le 13, 3) := by decide +kernel
theorem dX3_checkNumber_34 : decode cX3_checkNumber 34 = .ok (.new 34, 3) := by decide +kernel
theorem dX3_checkNumber_37 : decode cX3_checkNumber 37 = .ok (.dup, 1) := by decide +kernel
theorem dX3_checkNumber_38 : decode cX3_checkNumber 38 = .ok (.ldc 184, 2) := by decide +kernel
theorem dX3_checkNumber_40 : decode cX3_checkNumber 40 = .ok (.invokespecial 38, 3) := by decide +kernel
theorem dX3_checkNumber_43 : decode cX3_checkNumber 43 = .ok (.athrow, 1) := by decide +kernel
theorem dX3_checkNumber_44 : decode cX3_checkNumber 44 = .ok (.return_, 1) := by decide +kernel
theorem dX3_checkMost_0 : decode cX3_checkMost 0 = .ok (.iload_n 0, 1) := by decide +kernel
theorem dX3_checkMost_1 : decode cX3_checkMost 1 = .ok (.iconst 1, 1) := by decide +kernel
theorem dX3_checkMost_2 : decode cX3_checkMost 2 = .ok (.if_icmp .lt 9, 3) := by decide +kernel
theorem dX3_checkMost_5 : decode cX3_checkMost 5 = .ok (.iload_n 0, 1) := by decide +kernel
theorem dX3_checkMost_6 : decode cX3_checkMost 6 = .ok (.bipush 15, 2) := by decide +kernel
theorem dX3_checkMost_8 : decode cX3_checkMost 8 = .ok (.if_icmp .le 13, 3) := by decide +kernel
theorem dX3_checkMost_11 : decode cX3_checkMost 11 = .ok (.new 34, 3) := by decide +kernel
theorem dX3_checkMost_14 : decode cX3_checkMost 14 = .ok (.dup, 1) := by decide +kernel
theorem dX3_checkMost_15 : decode cX3_checkMost 15 = .ok (.ldc 186, 2) := by decide +kernel
theorem dX3_checkMost_17 : decode cX3_checkMost 17 = .ok (.invokespecial 38, 3) := by decide +kernel
theorem dX3_checkMost_20 : decode cX3_checkMost 20 = .ok (.athrow, 1) := by decide +kernel
theorem dX3_checkMost_21 : decode cX3_checkMost 21 = .ok (.return_, 1) := by decide +kernel
theorem dX3_checkWriting_0 : decode cX3_checkWriting 0 = .ok (.aload_n 0, 1) := by decide +kernel
theorem dX3_checkWriting_1 : decode cX3_checkWriting 1 = .ok (.getfield 19, 3) := by decide +kernel
theorem dX3_checkWriting_4 : decode cX3_checkWriting 4 = .ok (.getfield 188, 3) := by decide +kernel
theorem dX3_checkWriting_7 : decode cX3_checkWriting 7 = .ok (.ifCond .ne 13, 3) := by decide +kernel
theorem dX3_checkWriting_10 : decode cX3_checkWriting 10 = .ok (.new 116, 3) := by decide +kernel
theorem dX3_checkWriting_13 : decode cX3_checkWriting 13 = .ok (.dup, 1) := by decide +kernel
theorem dX3_checkWriting_14 : decode cX3_checkWriting 14 = .ok (.ldc 192, 2) := by decide +kernel
theorem dX3_checkWriting_16 : decode cX3_checkWriting 16 = .ok (.invokespecial 120, 3) := by decide +kernel
theorem dX3_checkWriting_19 : decode cX3_checkWriting 19 = .ok (.athrow, 1) := by decide +kernel
theorem dX3_checkWriting_20 : decode cX3_checkWriting 20 = .ok (.return_, 1) := by decide +kernel
set_option maxRecDepth 20000 in
theorem ggX3_checkRoom_X3_checkWriting : GoodIn wsX3_checkRoom wsX3_checkWriting := goodIn_ca (goodIn_r _ [9, 1, 2, 3, 10, 11, 12, 13, 14, 15, 16, 17, 18, 19, 20, 21, 22, 23, 24] (by decide +kernel) (by decide +kernel)) (goodIn_sub (fun _ h => List.mem_cons_of_mem _ (List.mem_append_right _ h)) (by decide +kernel))
set_option maxRecDepth 20000 in
theorem gX3_checkRoom_X3_checkWriting : GoodIn wsX3_checkRoom (wsV RX3 98 RX3 yX3_checkWriting wsX3_checkWriting) := goodIn_app (goodIn_of _ (by decide +kernel)) ggX3_checkRoom_X3_checkWriting
theorem dX3_checkRoom_0 : decode cX3_checkRoom 0 = .ok (.aload_n 0, 1) := by decide +kernel
theorem dX3_checkRoom_1 : decode cX3_checkRoom 1 = .ok (.invokevirtual 98, 3) := by decide +kernel
theorem dX3_checkRoom_4 : decode cX3_checkRoom 4 = .ok (.aload_n 0, 1) := by decide +kernel
theorem dX3_checkRoom_5 : decode cX3_checkRoom 5 = .ok (.getfield 19, 3) := by decide +kernel
theorem dX3_checkRoom_8 : decode cX3_checkRoom 8 = .ok (.getfield 162, 3) := by decide +kernel
theorem dX3_checkRoom_11 : decode cX3_checkRoom 11 = .ok (.iload_n 1, 1) := by decide +kernel
theorem dX3_checkRoom_12 : decode cX3_checkRoom 12 = .ok (.iadd, 1) := by decide +kernel
theorem dX3_checkRoom_13 : decode cX3_checkRoom 13 = .ok (.sipush 400, 3) := by decide +kernel
theorem dX3_checkRoom_16 : decode cX3_checkRoom 16 = .ok (.if_icmp .le 13, 3) := by decide +kernel
theorem dX3_checkRoom_19 : decode cX3_checkRoom 19 = .ok (.new 116, 3) := by decide +kernel
theorem dX3_checkRoom_22 : decode cX3_checkRoom 22 = .ok (.dup, 1) := by decide +kernel
theorem dX3_checkRoom_23 : decode cX3_checkRoom 23 = .ok (.ldc 194, 2) := by decide +kernel
theorem dX3_checkRoom_25 : decode cX3_checkRoom 25 = .ok (.invokespecial 120, 3) := by decide +kernel
theorem dX3_checkRoom_28 : decode cX3_checkRoom 28 = .ok (.athrow, 1) := by decide +kernel
theorem dX3_checkRoom_29 : decode cX3_checkRoom 29 = .ok (.return_, 1) := by decide +kernel
theorem dX3_checkByteIndex_0 : decode cX3_checkByteIndex 0 = .ok (.iload_n 1, 1) := by decide +kernel
theorem dX3_checkByteIndex_1 : decode cX3_checkByteIndex 1 = .ok (.ifCond .lt 14, 3) := by decide +kernel
theorem dX3_checkByteIndex_4 : decode cX3_checkByteIndex 4 = .ok (.iload_n 1, 1) := by decide +kernel
theorem dX3_checkByteIndex_5 : decode cX3_checkByteIndex 5 = .ok (.aload_n 0, 1) := by decide +kernel
theorem dX3_checkByteIndex_6 : decode cX3_checkByteIndex 6 = .ok (.getfield 19, 3) := by decide +kernel
theorem dX3_checkByteIndex_9 : decode cX3_checkByteIndex 9 = .ok (.getfield 104, 3) := by decide +kernel
theorem dX3_checkByteIndex_12 : decode cX3_checkByteIndex 12 = .ok (.if_icmp .lt 13, 3) := by decide +kernel
theorem dX3_checkByteIndex_15 : decode cX3_checkByteIndex 15 = .ok (.new 171, 3) := by decide +kernel
theorem dX3_checkByteIndex_18 : decode cX3_checkByteIndex 18 = .ok (.dup, 1) := by decide +kernel
theorem dX3_checkByteIndex_19 : decode cX3_checkByteIndex 19 = .ok (.ldc 196, 2) := by decide +kernel
theorem dX3_checkByteIndex_21 : decode cX3_checkByteIndex 21 = .ok (.invokespecial 175, 3) := by decide +kernel
theorem dX3_checkByteIndex_24 : decode cX3_checkByteIndex 24 = .ok (.athrow, 1) := by decide +kernel
theorem dX3_checkByteIndex_25 : decode cX3_checkByteIndex 25 = .ok (.return_, 1) := by decide +kernel
theorem dX3_checkReading_0 : decode cX3_checkReading 0 = .ok (.aload_n 0, 1) := by decide +kernel
theorem dX3_checkReading_1 : decode cX3_checkReading 1 = .ok (.getfield 26, 3) := by decide +kernel
theorem dX3_checkReading_4 : decode cX3_checkReading 4 = .ok (.getfield 198, 3) := by decide +kernel
theorem dX3_checkReading_7 : decode cX3_checkReading 7 = .ok (.ifCond .ne 13, 3) := by decide +kernel
theorem dX3_checkReading_10 : decode cX3_checkReading 10 = .ok (.new 116, 3) := by decide +kernel
theorem dX3_checkReading_13 : decode cX3_checkReading 13 = .ok (.dup, 1) := by decide +kernel
theorem dX3_checkReading_14 : decode cX3_checkReading 14 = .ok (.ldc 201, 2) := by decide +kernel
theorem dX3_checkReading_16 : decode cX3_checkReading 16 = .ok (.invokespecial 120, 3) := by decide +kernel
theorem dX3_checkReading_19 : decode cX3_checkReading 19 = .ok (.athrow, 1) := by decide +kernel
theorem dX3_checkReading_20 : decode cX3_checkReading 20 = .ok (.return_, 1) := by decide +kernel
theorem dX3_withoutSign_0 : decode cX3_withoutSign 0 = .ok (.iload_n 0, 1) := by decide +kernel
theorem dX3_withoutSign_1 : decode cX3_withoutSign 1 = .ok (.ifCond .le 11, 3) := by decide +kernel
theorem dX3_withoutSign_4 : decode cX3_withoutSign 4 = .ok (.iconst 2, 1) := by decide +kernel
theorem dX3_withoutSign_5 : decode cX3_withoutSign 5 = .ok (.iload_n 0, 1) := by decide +kernel
theorem dX3_withoutSign_6 : decode cX3_withoutSign 6 = .ok (.imul, 1) := by decide +kernel
theorem dX3_withoutSign_7 : decode cX3_withoutSign 7 = .ok (.iconst 1, 1) := by decide +kernel
theorem dX3_withoutSign_8 : decode cX3_withoutSign 8 = .ok (.isub, 1) := by decide +kernel
theorem dX3_withoutSign_9 : decode cX3_withoutSign 9 = .ok (.goto 7, 3) := by decide +kernel
theorem dX3_withoutSign_12 : decode cX3_withoutSign 12 = .ok (.bipush (-2), 2) := by decide +kernel
theorem dX3_withoutSign_14 : decode cX3_withoutSign 14 = .ok (.iload_n 0, 1) := by decide +kernel
theorem dX3_withoutSign_15 : decode cX3_withoutSign 15 = .ok (.imul, 1) := by decide +kernel
theorem dX3_withoutSign_16 : decode cX3_withoutSign 16 = .ok (.ireturn, 1) := by decide +kernel
theorem dX3_withSign_0 : decode cX3_withSign 0 = .ok (.iload_n 0, 1) := by decide +kernel
theorem dX3_withSign_1 : decode cX3_withSign 1 = .ok (.iconst 2, 1) := by decide +kernel
theorem dX3_withSign_2 : decode cX3_withSign 2 = .ok (.irem, 1) := by decide +kernel
theorem dX3_withSign_3 : decode cX3_withSign 3 = .ok (.iconst 1, 1) := by decide +kernel
theorem dX3_withSign_4 : decode cX3_withSign 4 = .ok (.if_icmp .ne 11, 3) := by decide +kernel
theorem dX3_withSign_7 : decode cX3_withSign 7 = .ok (.iload_n 0, 1) := by decide +kernel
theorem dX3_withSign_8 : decode cX3_withSign 8 = .ok (.iconst 1, 1) := by decide +kernel
theorem dX3_withSign_9 : decode cX3_withSign 9 = .ok (.iadd, 1) := by decide +kernel
theorem dX3_withSign_10 : decode cX3_withSign 10 = .ok (.iconst 2, 1) := by decide +kernel
theorem dX3_withSign_11 : decode cX3_withSign 11 = .ok (.idiv, 1) := by decide +kernel
theorem dX3_withSign_12 : decode cX3_withSign 12 = .ok (.goto 7, 3) := by decide +kernel
theorem dX3_withSign_15 : decode cX3_withSign 15 = .ok (.iload_n 0, 1) := by decide +kernel
theorem dX3_withSign_16 : decode cX3_withSign 16 = .ok (.iconst 2, 1) := by decide +kernel
theorem dX3_withSign_17 : decode cX3_withSign 17 = .ok (.idiv, 1) := by decide +kernel
theorem dX3_withSign_18 : decode cX3_withSign 18 = .ok (.ineg, 1) := by decide +kernel
theorem dX3_withSign_19 : decode cX3_withSign 19 = .ok (.ireturn, 1) := by decide +kernel
theorem dX3_binsOfNumber_0 : decode cX3_binsOfNumber 0 = .ok (.iload_n 1, 1) := by decide +kernel
theorem dX3_binsOfNumber_1 : decode cX3_binsOfNumber 1 = .ok (.istore_n 2, 1) := by decide +kernel
theorem dX3_binsOfNumber_2 : decode cX3_binsOfNumber 2 = .ok (.iconst 0, 1) := by decide +kernel
theorem dX3_binsOfNumber_3 : decode cX3_binsOfNumber 3 = .ok (.istore_n 3, 1) := by decide +kernel
theorem dX3_binsOfNumber_4 : decode cX3_binsOfNumber 4 = .ok (.iload_n 0, 1) := by decide +kernel
theorem dX3_binsOfNumber_5 : decode cX3_binsOfNumber 5 = .ok (.istore 4, 2) := by decide +kernel
theorem dX3_binsOfNumber_7 : decode cX3_binsOfNumber 7 = .ok (.iload 4, 2) := by decide +kernel
theorem dX3_binsOfNumber_9 : decode cX3_binsOfNumber 9 = .ok (.bipush 16, 2) := by decide +kernel
theorem dX3_binsOfNumber_11 : decode cX3_binsOfNumber 11 = .ok (.if_icmp .ge 27, 3) := by decide +kernel
theorem dX3_binsOfNumber_14 : decode cX3_binsOfNumber 14 = .ok (.iload_n 2, 1) := by decide +kernel
theorem dX3_binsOfNumber_15 : decode cX3_binsOfNumber 15 = .ok (.iconst 1, 1) := by decide +kernel
theorem dX3_binsOfNumber_16 : decode cX3_binsOfNumber 16 = .ok (.iload 4, 2) := by decide +kernel
theorem dX3_binsOfNumber_18 : decode cX3_binsOfNumber 18 = .ok (.ishl, 1) := by decide +kernel
theorem dX3_binsOfNumber_19 : decode cX3_binsOfNumber 19 = .ok (.if_icmp .lt 19, 3) := by decide +kernel
theorem dX3_binsOfNumber_22 : decode cX3_binsOfNumber 22 = .ok (.iload_n 2, 1) := by decide +kernel
theorem dX3_binsOfNumber_23 : decode cX3_binsOfNumber 23 = .ok (.iconst 1, 1) := by decide +kernel
theorem dX3_binsOfNumber_24 : decode cX3_binsOfNumber 24 = .ok (.iload 4, 2) := by decide +kernel
theorem dX3_binsOfNumber_26 : decode cX3_binsOfNumber 26 = .ok (.ishl, 1) := by decide +kernel
theorem dX3_binsOfNumber_27 : decode cX3_binsOfNumber 27 = .ok (.isub, 1) := by decide +kernel
theorem dX3_binsOfNumber_28 : decode cX3_binsOfNumber 28 = .ok (.istore_n 2, 1) := by decide +kernel
theorem dX3_binsOfNumber_29 : decode cX3_binsOfNumber 29 = .ok (.iinc 3 1, 3) := by decide +kernel
theorem dX3_binsOfNumber_32 : decode cX3_binsOfNumber 32 = .ok (.iinc 4 1, 3) := by decide +kernel
theorem dX3_binsOfNumber_35 : decode cX3_binsOfNumber 35 = .ok (.goto (-28), 3) := by decide +kernel
theorem dX3_binsOfNumber_38 : decode cX3_binsOfNumber 38 = .ok (.iload_n 3, 1) := by decide +kernel
theorem dX3_binsOfNumber_39 : decode cX3_binsOfNumber 39 = .ok (.iconst 1, 1) := by decide +kernel
theorem dX3_binsOfNumber_40 : decode cX3_binsOfNumber 40 = .ok (.iadd, 1) := by decide +kernel
theorem dX3_binsOfNumber_41 : decode cX3_binsOfNumber 41 = .ok (.iload_n 0, 1) := by decide +kernel
theorem dX3_binsOfNumber_42 : decode cX3_binsOfNumber 42 = .ok (.iadd, 1) := by decide +kernel
theorem dX3_binsOfNumber_43 : decode cX3_binsOfNumber 43 = .ok (.iload_n 3, 1) := by decide +kernel
theorem dX3_binsOfNumber_44 : decode cX3_binsOfNumber 44 = .ok (.iadd, 1) := by decide +kernel
theorem dX3_binsOfNumber_45 : decode cX3_binsOfNumber 45 = .ok (.ireturn, 1) := by decide +kernel
theorem dX3_contextOfCount_0 : decode cX3_contextOfCount 0 = .ok (.iload_n 0, 1) := by decide +kernel
theorem dX3_contextOfCount_1 : decode cX3_contextOfCount 1 = .ok (.iload_n 1, 1) := by decide +kernel
theorem dX3_contextOfCount_2 : decode cX3_contextOfCount 2 = .ok (.iconst 3, 1) := by decide +kernel
theorem dX3_contextOfCount_3 : decode cX3_contextOfCount 3 = .ok (.invokestatic 203, 3) := by decide +kernel
theorem dX3_contextOfCount_6 : decode cX3_contextOfCount 6 = .ok (.iadd, 1) := by decide +kernel
theorem dX3_contextOfCount_7 : decode cX3_contextOfCount 7 = .ok (.ireturn, 1) := by decide +kernel
set_option maxRecDepth 20000 in
theorem ggX4_init_X4_line : GoodIn wsX4_init wsX4_line := goodIn_r _ [16, 5, 6, 17, 18, 19, 20, 21, 22, 23, 24, 25, 26, 27, 28, 29, 30, 31, 32, 33, 34, 35, 36, 37] (by decide +kernel) (by decide +kernel)
set_option maxRecDepth 20000 in
theorem gX4_init_X4_line : GoodIn wsX4_init (wsV RX4 31 RX4 yX4_line wsX4_line) := goodIn_app (goodIn_of _ (by decide +kernel)) ggX4_init_X4_line
theorem dX4_init_0 : decode cX4_init 0 = .ok (.aload_n 0, 1) := by decide +kernel
theorem dX4_init_1 : decode cX4_init 1 = .ok (.invokespecial 1, 3) := by decide +kernel
theorem dX4_init_4 : decode cX4_init 4 = .ok (.aload_n 0, 1) := by decide +kernel
theorem dX4_init_5 : decode cX4_init 5 = .ok (.sipush 252, 3) := by decide +kernel
theorem dX4_init_8 : decode cX4_init 8 = .ok (.newarray .int, 2) := by decide +kernel
theorem dX4_init_10 : decode cX4_init 10 = .ok (.putfield 7, 3) := by decide +kernel
theorem dX4_init_13 : decode cX4_init 13 = .ok (.aload_n 0, 1) := by decide +kernel
theorem dX4_init_14 : decode cX4_init 14 = .ok (.bipush 63, 2) := by decide +kernel
theorem dX4_init_16 : decode cX4_init 16 = .ok (.newarray .int, 2) := by decide +kernel
theorem dX4_init_18 : decode cX4_init 18 = .ok (.putfield 13, 3) := by decide +kernel
theorem dX4_init_21 : decode cX4_init 21 = .ok (.aload_n 0, 1) := by decide +kernel
theorem dX4_init_22 : decode cX4_init 22 = .ok (.bipush 96, 2) := by decide +kernel
theorem dX4_init_24 : decode cX4_init 24 = .ok (.newarray .int, 2) := by decide +kernel
theorem dX4_init_26 : decode cX4_init 26 = .ok (.putfield 16, 3) := by decide +kernel
theorem dX4_init_29 : decode cX4_init 29 = .ok (.aload_n 0, 1) := by decide +kernel
theorem dX4_init_30 : decode cX4_init 30 = .ok (.bipush 96, 2) := by decide +kernel
theorem dX4_init_32 : decode cX4_init 32 = .ok (.newarray .int, 2) := by decide +kernel
theorem dX4_init_34 : decode cX4_init 34 = .ok (.putfield 19, 3) := by decide +kernel
theorem dX4_init_37 : decode cX4_init 37 = .ok (.aload_n 0, 1) := by decide +kernel
theorem dX4_init_38 : decode cX4_init 38 = .ok (.sipush 2600, 3) := by decide +kernel
theorem dX4_init_41 : decode cX4_init 41 = .ok (.newarray .int, 2) := by decide +kernel
theorem dX4_init_43 : decode cX4_init 43 = .ok (.putfield 22, 3) := by decide +kernel
theorem dX4_init_46 : decode cX4_init 46 = .ok (.aload_n 0, 1) := by decide +kernel
theorem dX4_init_47 : decode cX4_init 47 = .ok (.sipush 320, 3) := by decide +kernel
theorem dX4_init_50 : decode cX4_init 50 = .ok (.newarray .int, 2) := by decide +kernel
theorem dX4_init_52 : decode cX4_init 52 = .ok (.putfield 25, 3) := by decide +kernel
theorem dX4_init_55 : decode cX4_init 55 = .ok (.aload_n 0, 1) := by decide +kernel
theorem dX4_init_56 : decode cX4_init 56 = .ok (.sipush 320, 3) := by decide +kernel
theorem dX4_init_59 : decode cX4_init 59 = .ok (.newarray .int, 2) := by decide +kernel
theorem dX4_init_61 : decode cX4_init 61 = .ok (.putfield 28, 3) := by decide +kernel
theorem dX4_init_64 : decode cX4_init 64 = .ok (.aload_n 0, 1) := by decide +kernel
theorem dX4_init_65 : decode cX4_init 65 = .ok (.iconst 0, 1) := by decide +kernel
theorem dX4_init_66 : decode cX4_init 66 = .ok (.sipush 128, 3) := by decide +kernel
theorem dX4_init_69 : decode cX4_init 69 = .ok (.sipush 176, 3) := by decide +kernel
theorem dX4_init_72 : decode cX4_init 72 = .ok (.sipush 208, 3) := by decide +kernel
theorem dX4_init_75 : decode cX4_init 75 = .ok (.sipush 240, 3) := by decide +kernel
theorem dX4_init_78 : decode cX4_init 78 = .ok (.iconst 0, 1) := by decide +kernel
theorem dX4_init_79 : decode cX4_init 79 = .ok (.invokevirtual 31, 3) := by decide +kernel
theorem dX4_init_82 : decode cX4_init 82 = .ok (.aload_n 0, 1) := by decide +kernel
theorem dX4_init_83 : decode cX4_init 83 = .ok (.iconst 1, 1) := by decide +kernel
theorem dX4_init_84 : decode cX4_init 84 = .ok (.sipush 128, 3) := by decide +kernel
theorem dX4_init_87 : decode cX4_init 87 = .ok (.sipush 167, 3) := by decide +kernel
theorem dX4_init_90 : decode cX4_init 90 = .ok (.sipush 197, 3) := by decide +kernel
theorem dX4_init_93 : decode cX4_init 93 = .ok (.sipush 227, 3) := by decide +kernel
theorem dX4_init_96 : decode cX4_init 96 = .ok (.iconst 0, 1) := by decide +kernel
theorem dX4_init_97 : decode cX4_init 97 = .ok (.invokevirtual 31, 3) := by decide +kernel
theorem dX4_init_100 : decode cX4_init 100 = .ok (.aload_n 0, 1) := by decide +kernel
theorem dX4_init_101 : decode cX4_init 101 = .ok (.iconst 2, 1) := by decide +kernel
theorem dX4_init_102 : decode cX4_init 102 = .ok (.sipush 128, 3) := by decide +kernel
theorem dX4_init_105 : decode cX4_init 105 = .ok (.sipush 158, 3) := by decide +kernel
theorem dX4_init_108 : decode cX4_init 108 = .ok (.sipush 187, 3) := by decide +kernel
theorem dX4_init_111 : decode cX4_init 111 = .ok (.sipush 216, 3) := by decide +kernel
theorem dX4_init_114 : decode cX4_init 114 = .ok (.iconst 1, 1) := by decide +kernel
theorem dX4_init_115 : decode cX4_init 115 = .ok (.invokevirtual 31, 3) := by decide +kernel
theorem dX4_init_118 : decode cX4_init 118 = .ok (.aload_n 0, 1) := by decide +kernel
theorem dX4_init_119 : decode cX4_init 119 = .ok (.iconst 3, 1) := by decide +kernel
theorem dX4_init_120 : decode cX4_init 120 = .ok (.bipush 123, 2) := by decide +kernel
theorem dX4_init_122 : decode cX4_init 122 = .ok (.sipush 150, 3) := by decide +kernel
theorem dX4_init_125 : decode cX4_init 125 = .ok (.sipush 178, 3) := by decide +kernel
theorem dX4_init_128 : decode cX4_init 128 = .ok (.sipush 205, 3) := by decide +kernel
theorem dX4_init_131 : decode cX4_init 131 = .ok (.iconst 2, 1) := by decide +kernel
theorem dX4_init_132 : decode cX4_init 132 = .ok (.invokevirtual 31, 3) := by decide +kernel
theorem dX4_init_135 : decode cX4_init 135 = .ok (.aload_n 0, 1) := by decide +kernel
theorem dX4_init_136 : decode cX4_init 136 = .ok (.iconst 4, 1) := by decide +kernel
theorem dX4_init_137 : decode cX4_init 137 = .ok (.bipush 116, 2) := by decide +kernel
theorem dX4_init_139 : decode cX4_init 139 = .ok (.sipush 142, 3) := by decide +kernel
theorem dX4_init_142 : decode cX4_init 142 = .ok (.sipush 169, 3) := by decide +kernel
theorem dX4_init_145 : decode cX4_init 145 = .ok (.sipush 195, 3) := by decide +kernel
theorem dX4_init_148 : decode cX4_init 148 = .ok (.iconst 2, 1) := by decide +kernel
theorem dX4_init_149 : decode cX4_init 149 = .ok (.invokevirtual 31, 3) := by decide +kernel
theorem dX4_init_152 : decode cX4_init 152 = .ok (.aload_n 0, 1) := by decide +kernel
theorem dX4_init_153 : decode cX4_init 153 = .ok (.iconst 5, 1) := by decide +kernel
theorem dX4_init_154 : decode cX4_init 154 = .ok (.bipush 111, 2) := by decide +kernel
theorem dX4_init_156 : decode cX4_init 156 = .ok (.sipush 135, 3) := by decide +kernel
theorem dX4_init_159 : decode cX4_init 159 = .ok (.sipush 160, 3) := by decide +kernel
theorem dX4_init_162 : decode cX4_init 162 = .ok (.sipush 185, 3) := by decide +kernel
theorem dX4_init_165 : decode cX4_init 165 = .ok (.iconst 4, 1) := by decide +kernel
theorem dX4_init_166 : decode cX4_init 166 = .ok (.invokevirtual 31, 3) := by decide +kernel
theorem dX4_init_169 : decode cX4_init 169 = .ok (.aload_n 0, 1) := by decide +kernel
theorem dX4_init_170 : decode cX4_init 170 = .ok (.bipush 6, 2) := by decide +kernel
theorem dX4_init_172 : decode cX4_init 172 = .ok (.bipush 105, 2) := by decide +kernel
theorem dX4_init_174 : decode cX4_init 174 = .ok (.sipush 128, 3) := by decide +kernel
theorem dX4_init_177 : decode cX4_init 177 = .ok (.sipush 152, 3) := by decide +kernel
theorem dX4_init_180 : decode cX4_init 180 = .ok (.sipush 175, 3) := by decide +kernel
theorem dX4_init_183 : decode cX4_init 183 = .ok (.iconst 4, 1) := by decide +kernel
theorem dX4_init_184 : decode cX4_init 184 = .ok (.invokevirtual 31, 3) := by decide +kernel
theorem dX4_init_187 : decode cX4_init 187 = .ok (.aload_n 0, 1) := by decide +kernel
theorem dX4_init_188 : decode cX4_init 188 = .ok (.bipush 7, 2) := by decide +kernel
theorem dX4_init_190 : decode cX4_init 190 = .ok (.bipush 100, 2) := by decide +kernel
theorem dX4_init_192 : decode cX4_init 192 = .ok (.bipush 122, 2) := by decide +kernel
theorem dX4_init_194 : decode cX4_init 194 = .ok (.sipush 144, 3) := by decide +kernel
theorem dX4_init_197 : decode cX4_init 197 = .ok (.sipush 166, 3) := by decide +kernel
theorem dX4_init_200 : decode cX4_init 200 = .ok (.iconst 5, 1) := by decide +kernel
theorem dX4_init_201 : decode cX4_init 201 = .ok (.invokevirtual 31, 3) := by decide +kernel
theorem dX4_init_204 : decode cX4_init 204 = .ok (.aload_n 0, 1) := by decide +kernel
theorem dX4_init_205 : decode cX4_init 205 = .ok (.bipush 8, 2) := by decide +kernel
theorem dX4_init_207 : decode cX4_init 207 = .ok (.bipush 95, 2) := by decide +kernel
theorem dX4_init_209 : decode cX4_init 209 = .ok (.bipush 116, 2) := by decide +kernel
theorem dX4_init_211 : decode cX4_init 211 = .ok (.sipush 137, 3) := by decide +kernel
theorem dX4_init_214 : decode cX4_init 214 = .ok (.sipush 158, 3) := by decide +kernel
theorem dX4_init_217 : decode cX4_init 217 = .ok (.bipush 6, 2) := by decide +kernel
theorem dX4_init_219 : decode cX4_init 219 = .ok (.invokevirtual 31, 3) := by decide +kernel
theorem dX4_init_222 : decode cX4_init 222 = .ok (.aload_n 0, 1) := by decide +kernel
theorem dX4_init_223 : decode cX4_init 223 = .ok (.bipush 9, 2) := by decide +kernel
theorem dX4_init_225 : decode cX4_init 225 = .ok (.bipush 90, 2) := by decide +kernel
theorem dX4_init_227 : decode cX4_init 227 = .ok (.bipush 110, 2) := by decide +kernel
theorem dX4_init_229 : decode cX4_init 229 = .ok (.sipush 130, 3) := by decide +kernel
theorem dX4_init_232 : decode cX4_init 232 = .ok (.sipush 150, 3) := by decide +kernel
theorem dX4_init_235 : decode cX4_init 235 = .ok (.bipush 7, 2) := by decide +kernel
theorem dX4_init_237 : decode cX4_init 237 = .ok (.invokevirtual 31, 3) := by decide +kernel
theorem dX4_init_240 : decode cX4_init 240 = .ok (.aload_n 0, 1) := by decide +kernel
theorem dX4_init_241 : decode cX4_init 241 = .ok (.bipush 10, 2) := by decide +kernel
theorem dX4_init_243 : decode cX4_init 243 = .ok (.bipush 85, 2) := by decide +kernel
theorem dX4_init_245 : decode cX4_init 245 = .ok (.bipush 104, 2) := by decide +kernel
theorem dX4_init_247 : decode cX4_init 247 = .ok (.bipush 123, 2) := by decide +kernel
theorem dX4_init_249 : decode cX4_init 249 = .ok (.sipush 142, 3) := by decide +kernel
theorem dX4_init_252 : decode cX4_init 252 = .ok (.bipush 8, 2) := by decide +kernel
theorem dX4_init_254 : decode cX4_init 254 = .ok (.invokevirtual 31, 3) := by decide +kernel
theorem dX4_init_257 : decode cX4_init 257 = .ok (.aload_n 0, 1) := by decide +kernel
theorem dX4_init_258 : decode cX4_init 258 = .ok (.bipush 11, 2) := by decide +kernel
theorem dX4_init_260 : decode cX4_init 260 = .ok (.bipush 81, 2) := by decide +kernel
theorem dX4_init_262 : decode cX4_init 262 = .ok (.bipush 99, 2) := by decide +kernel
theorem dX4_init_264 : decode cX4_init 264 = .ok (.bipush 117, 2) := by decide +kernel
theorem dX4_init_266 : decode cX4_init 266 = .ok (.sipush 135, 3) := by decide +kernel
theorem dX4_init_269 : decode cX4_init 269 = .ok (.bipush 9, 2) := by decide +kernel
theorem dX4_init_271 : decode cX4_init 271 = .ok (.invokevirtual 31, 3) := by decide +kernel
theorem dX4_init_274 : decode cX4_init 274 = .ok (.aload_n 0, 1) := by decide +kernel
theorem dX4_init_275 : decode cX4_init 275 = .ok (.bipush 12, 2) := by decide +kernel
theorem dX4_init_277 : decode cX4_init 277 = .ok (.bipush 77, 2) := by decide +kernel
theorem dX4_init_279 : decode cX4_init 279 = .ok (.bipush 94, 2) := by decide +kernel
theorem dX4_init_281 : decode cX4_init 281 = .ok (.bipush 111, 2) := by decide +kernel
theorem dX4_init_283 : decode cX4_init 283 = .ok (.sipush 128, 3) := by decide +kernel
theorem dX4_init_286 : decode cX4_init 286 = .ok (.bipush 9, 2) := by decide +kernel
theorem dX4_init_288 : decode cX4_init 288 = .ok (.invokevirtual 31, 3) := by decide +kernel
theorem dX4_init_291 : decode cX4_init 291 = .ok (.aload_n 0, 1) := by decide +kernel
theorem dX4_init_292 : decode cX4_init 292 = .ok (.bipush 13, 2) := by decide +kernel
theorem dX4_init_294 : decode cX4_init 294 = .ok (.bipush 73, 2) := by decide +kernel
theorem dX4_init_296 : decode cX4_init 296 = .ok (.bipush 89, 2) := by decide +kernel
theorem dX4_init_298 : decode cX4_init 298 = .ok (.bipush 105, 2) := by decide +kernel
theorem dX4_init_300 : decode cX4_init 300 = .ok (.bipush 122, 2) := by decide +kernel
theorem dX4_init_302 : decode cX4_init 302 = .ok (.bipush 11, 2) := by decide +kernel
theorem dX4_init_304 : decode cX4_init 304 = .ok (.invokevirtual 31, 3) := by decide +kernel
theorem dX4_init_307 : decode cX4_init 307 = .ok (.aload_n 0, 1) := by decide +kernel
theorem dX4_init_308 : decode cX4_init 308 = .ok (.bipush 14, 2) := by decide +kernel
theorem dX4_init_310 : decode cX4_init 310 = .ok (.bipush 69, 2) := by decide +kernel
theorem dX4_init_312 : decode cX4_init 312 = .ok (.bipush 85, 2) := by decide +kernel
theorem dX4_init_314 : decode cX4_init 314 = .ok (.bipush 100, 2) := by decide +kernel
theorem dX4_init_316 : decode cX4_init 316 = .ok (.bipush 116, 2) := by decide +kernel
theorem dX4_init_318 : decode cX4_init 318 = .ok (.bipush 11, 2) := by decide +kernel
theorem dX4_init_320 : decode cX4_init 320 = .ok (.invokevirtual 31, 3) := by decide +kernel
theorem dX4_init_323 : decode cX4_init 323 = .ok (.aload_n 0, 1) := by decide +kernel
theorem dX4_init_324 : decode cX4_init 324 = .ok (.bipush 15, 2) := by decide +kernel
theorem dX4_init_326 : decode cX4_init 326 = .ok (.bipush 66, 2) := by decide +kernel
theorem dX4_init_328 : decode cX4_init 328 = .ok (.bipush 80, 2) := by decide +kernel
theorem dX4_init_330 : decode cX4_init 330 = .ok (.bipush 95, 2) := by decide +kernel
theorem dX4_init_332 : decode cX4_init 332 = .ok (.bipush 110, 2) := by decide +kernel
theorem dX4_init_334 : decode cX4_init 334 = .ok (.bipush 12, 2) := by decide +kernel
theorem dX4_init_336 : decode cX4_init 336 = .ok (.invokevirtual 31, 3) := by decide +kernel
theorem dX4_init_339 : decode cX4_init 339 = .ok (.aload_n 0, 1) := by decide +kernel
theorem dX4_init_340 : decode cX4_init 340 = .ok (.bipush 16, 2) := by decide +kernel
theorem dX4_init_342 : decode cX4_init 342 = .ok (.bipush 62, 2) := by decide +kernel
theorem dX4_init_344 : decode cX4_init 344 = .ok (.bipush 76, 2) := by decide +kernel
theorem dX4_init_346 : decode cX4_init 346 = .ok (.bipush 90, 2) := by decide +kernel
theorem dX4_init_348 : decode cX4_init 348 = .ok (.bipush 104, 2) := by decide +kernel
theorem dX4_init_350 : decode cX4_init 350 = .ok (.bipush 13, 2) := by decide +kernel
theorem dX4_init_352 : decode cX4_init 352 = .ok (.invokevirtual 31, 3) := by decide +kernel
theorem dX4_init_355 : decode cX4_init 355 = .ok (.aload_n 0, 1) := by decide +kernel
theorem dX4_init_356 : decode cX4_init 356 = .ok (.bipush 17, 2) := by decide +kernel
theorem dX4_init_358 : decode cX4_init 358 = .ok (.bipush 59, 2) := by decide +kernel
theorem dX4_init_360 : decode cX4_init 360 = .ok (.bipush 72, 2) := by decide +kernel
theorem dX4_init_362 : decode cX4_init 362 = .ok (.bipush 86, 2) := by decide +kernel
theorem dX4_init_364 : decode cX4_init 364 = .ok (.bipush 99, 2) := by decide +kernel
theorem dX4_init_366 : decode cX4_init 366 = .ok (.bipush 13, 2) := by decide +kernel
theorem dX4_init_368 : decode cX4_init 368 = .ok (.invokevirtual 31, 3) := by decide +kernel
theorem dX4_init_371 : decode cX4_init 371 = .ok (.aload_n 0, 1) := by decide +kernel
theorem dX4_init_372 : decode cX4_init 372 = .ok (.bipush 18, 2) := by decide +kernel
theorem dX4_init_374 : decode cX4_init 374 = .ok (.bipush 56, 2) := by decide +kernel
theorem dX4_init_376 : decode cX4_init 376 = .ok (.bipush 69, 2) := by decide +kernel
theorem dX4_init_378 : decode cX4_init 378 = .ok (.bipush 81, 2) := by decide +kernel
theorem dX4_init_380 : decode cX4_init 380 = .ok (.bipush 94, 2) := by decide +kernel
theorem dX4_init_382 : decode cX4_init 382 = .ok (.bipush 15, 2) := by decide +kernel
theorem dX4_init_384 : decode cX4_init 384 = .ok (.invokevirtual 31, 3) := by decide +kernel
theorem dX4_init_387 : decode cX4_init 387 = .ok (.aload_n 0, 1) := by decide +kernel
theorem dX4_init_388 : decode cX4_init 388 = .ok (.bipush 19, 2) := by decide +kernel
theorem dX4_init_390 : decode cX4_init 390 = .ok (.bipush 53, 2) := by decide +kernel
theorem dX4_init_392 : decode cX4_init 392 = .ok (.bipush 65, 2) := by decide +kernel
theorem dX4_init_394 : decode cX4_init 394 = .ok (.bipush 77, 2) := by decide +kernel
theorem dX4_init_396 : decode cX4_init 396 = .ok (.bipush 89, 2) := by decide +kernel
theorem dX4_init_398 : decode cX4_init 398 = .ok (.bipush 15, 2) := by decide +kernel
theorem dX4_init_400 : decode cX4_init 400 = .ok (.invokevirtual 31, 3) := by decide +kernel
theorem dX4_init_403 : decode cX4_init 403 = .ok (.aload_n 0, 1) := by decide +kernel
theorem dX4_init_404 : decode cX4_init 404 = .ok (.bipush 20, 2) := by decide +kernel
theorem dX4_init_406 : decode cX4_init 406 = .ok (.bipush 51, 2) := by decide +kernel
theorem dX4_init_408 : decode cX4_init 408 = .ok (.bipush 62, 2) := by decide +kernel
theorem dX4_init_410 : decode cX4_init 410 = .ok (.bipush 73, 2) := by decide +kernel
theorem dX4_init_412 : decode cX4_init 412 = .ok (.bipush 85, 2) := by decide +kernel
theorem dX4_init_414 : decode cX4_init 414 = .ok (.bipush 16, 2) := by decide +kernel
theorem dX4_init_416 : decode cX4_init 416 = .ok (.invokevirtual 31, 3) := by decide +kernel
theorem dX4_init_419 : decode cX4_init 419 = .ok (.aload_n 0, 1) := by decide +kernel
theorem dX4_init_420 : decode cX4_init 420 = .ok (.bipush 21, 2) := by decide +kernel
theorem dX4_init_422 : decode cX4_init 422 = .ok (.bipush 48, 2) := by decide +kernel
theorem dX4_init_424 : decode cX4_init 424 = .ok (.bipush 59, 2) := by decide +kernel
theorem dX4_init_426 : decode cX4_init 426 = .ok (.bipush 69, 2) := by decide +kernel
theorem dX4_init_428 : decode cX4_init 428 = .ok (.bipush 80, 2) := by decide +kernel
theorem dX4_init_430 : decode cX4_init 430 = .ok (.bipush 16, 2) := by decide +kernel
theorem dX4_init_432 : decode cX4_init 432 = .ok (.invokevirtual 31, 3) := by decide +kernel
theorem dX4_init_435 : decode cX4_init 435 = .ok (.aload_n 0, 1) := by decide +kernel
theorem dX4_init_436 : decode cX4_init 436 = .ok (.bipush 22, 2) := by decide +kernel
theorem dX4_init_438 : decode cX4_init 438 = .ok (.bipush 46, 2) := by decide +kernel
theorem dX4_init_440 : decode cX4_init 440 = .ok (.bipush 56, 2) := by decide +kernel
theorem dX4_init_442 : decode cX4_init 442 = .ok (.bipush 66, 2) := by decide +kernel
theorem dX4_init_444 : decode cX4_init 444 = .ok (.bipush 76, 2) := by decide +kernel
theorem dX4_init_446 : decode cX4_init 446 = .ok (.bipush 18, 2) := by decide +kernel
theorem dX4_init_448 : decode cX4_init 448 = .ok (.invokevirtual 31, 3) := by decide +kernel
theorem dX4_init_451 : decode cX4_init 451 = .ok (.aload_n 0, 1) := by decide +kernel
theorem dX4_init_452 : decode cX4_init 452 = .ok (.bipush 23, 2) := by decide +kernel
theorem dX4_init_454 : decode cX4_init 454 = .ok (.bipush 43, 2) := by decide +kernel
theorem dX4_init_456 : decode cX4_init 456 = .ok (.bipush 53, 2) := by decide +kernel
theorem dX4_init_458 : decode cX4_init 458 = .ok (.bipush 63, 2) := by decide +kernel
theorem dX4_init_460 : decode cX4_init 460 = .ok (.bipush 72, 2) := by decide +kernel
theorem dX4_init_462 : decode cX4_init 462 = .ok (.bipush 18, 2) := by decide +kernel
theorem dX4_init_464 : decode cX4_init 464 = .ok (.invokevirtual 31, 3) := by decide +kernel
theorem dX4_init_467 : decode cX4_init 467 = .ok (.aload_n 0, 1) := by decide +kernel
theorem dX4_init_468 : decode cX4_init 468 = .ok (.bipush 24, 2) := by decide +kernel
theorem dX4_init_470 : decode cX4_init 470 = .ok (.bipush 41, 2) := by decide +kernel
theorem dX4_init_472 : decode cX4_init 472 = .ok (.bipush 50, 2) := by decide +kernel
theorem dX4_init_474 : decode cX4_init 474 = .ok (.bipush 59, 2) := by decide +kernel
theorem dX4_init_476 : decode cX4_init 476 = .ok (.bipush 69, 2) := by decide +kernel
theorem dX4_init_478 : decode cX4_init 478 = .ok (.bipush 19, 2) := by decide +kernel
theorem dX4_init_480 : decode cX4_init 480 = .ok (.invokevirtual 31, 3) := by decide +kernel
theorem dX4_init_483 : decode cX4_init 483 = .ok (.aload_n 0, 1) := by decide +kernel
theorem dX4_init_484 : decode cX4_init 484 = .ok (.bipush 25, 2) := by decide +kernel
theorem dX4_init_486 : decode cX4_init 486 = .ok (.bipush 39, 2) := by decide +kernel
theorem dX4_init_488 : decode cX4_init 488 = .ok (.bipush 48, 2) := by decide +kernel
theorem dX4_init_490 : decode cX4_init 490 = .ok (.bipush 56, 2) := by decide +kernel
theorem dX4_init_492 : decode cX4_init 492 = .ok (.bipush 65, 2) := by decide +kernel
theorem dX4_init_494 : decode cX4_init 494 = .ok (.bipush 19, 2) := by decide +kernel
theorem dX4_init_496 : decode cX4_init 496 = .ok (.invokevirtual 31, 3) := by decide +kernel
theorem dX4_init_499 : decode cX4_init 499 = .ok (.aload_n 0, 1) := by decide +kernel
theorem dX4_init_500 : decode cX4_init 500 = .ok (.bipush 26, 2) := by decide +kernel
theorem dX4_init_502 : decode cX4_init 502 = .ok (.bipush 37, 2) := by decide +kernel
theorem dX4_init_504 : decode cX4_init 504 = .ok (.bipush 45, 2) := by decide +kernel
theorem dX4_init_506 : decode cX4_init 506 = .ok (.bipush 54, 2) := by decide +kernel
theorem dX4_init_508 : decode cX4_init 508 = .ok (.bipush 62, 2) := by decide +kernel
theorem dX4_init_510 : decode cX4_init 510 = .ok (.bipush 21, 2) := by decide +kernel
theorem dX4_init_512 : decode cX4_init 512 = .ok (.invokevirtual 31, 3) := by decide +kernel
theorem dX4_init_515 : decode cX4_init 515 = .ok (.aload_n 0, 1) := by decide +kernel
theorem dX4_init_516 : decode cX4_init 516 = .ok (.bipush 27, 2) := by decide +kernel
theorem dX4_init_518 : decode cX4_init 518 = .ok (.bipush 35, 2) := by decide +kernel
theorem dX4_init_520 : decode cX4_init 520 = .ok (.bipush 43, 2) := by decide +kernel
theorem dX4_init_522 : decode cX4_init 522 = .ok (.bipush 51, 2) := by decide +kernel
theorem dX4_init_524 : decode cX4_init 524 = .ok (.bipush 59, 2) := by decide +kernel
theorem dX4_init_526 : decode cX4_init 526 = .ok (.bipush 21, 2) := by decide +kernel
theorem dX4_init_528 : decode cX4_init 528 = .ok (.invokevirtual 31, 3) := by decide +kernel
theorem dX4_init_531 : decode cX4_init 531 = .ok (.aload_n 0, 1) := by decide +kernel
theorem dX4_init_532 : decode cX4_init 532 = .ok (.bipush 28, 2) := by decide +kernel
theorem dX4_init_534 : decode cX4_init 534 = .ok (.bipush 33, 2) := by decide +kernel
theorem dX4_init_536 : decode cX4_init 536 = .ok (.bipush 41, 2) := by decide +kernel
theorem dX4_init_538 : decode cX4_init 538 = .ok (.bipush 48, 2) := by decide +kernel
theorem dX4_init_540 : decode cX4_init 540 = .ok (.bipush 56, 2) := by decide +kernel
theorem dX4_init_542 : decode cX4_init 542 = .ok (.bipush 22, 2) := by decide +kernel
theorem dX4_init_544 : decode cX4_init 544 = .ok (.invokevirtual 31, 3) := by decide +kernel
theorem dX4_init_547 : decode cX4_init 547 = .ok (.aload_n 0, 1) := by decide +kernel
theorem dX4_init_548 : decode cX4_init 548 = .ok (.bipush 29, 2) := by decide +kernel
theorem dX4_init_550 : decode cX4_init 550 = .ok (.bipush 32, 2) := by decide +kernel
theorem dX4_init_552 : decode cX4_init 552 = .ok (.bipush 39, 2) := by decide +kernel
theorem dX4_init_554 : decode cX4_init 554 = .ok (.bipush 46, 2) := by decide +kernel
theorem dX4_init_556 : decode cX4_init 556 = .ok (.bipush 53, 2) := by decide +kernel
theorem dX4_init_558 : decode cX4_init 558 = .ok (.bipush 22, 2) := by decide +kernel
theorem dX4_init_560 : decode cX4_init 560 = .ok (.invokevirtual 31, 3) := by decide +kernel
theorem dX4_init_563 : decode cX4_init 563 = .ok (.aload_n 0, 1) := by decide +kernel
theorem dX4_init_564 : decode cX4_init 564 = .ok (.bipush 30, 2) := by decide +kernel
theorem dX4_init_566 : decode cX4_init 566 = .ok (.bipush 30, 2) := by decide +kernel
theorem dX4_init_568 : decode cX4_init 568 = .ok (.bipush 37, 2) := by decide +kernel
theorem dX4_init_570 : decode cX4_init 570 = .ok (.bipush 43, 2) := by decide +kernel
theorem dX4_init_572 : decode cX4_init 572 = .ok (.bipush 50, 2) := by decide +kernel
theorem dX4_init_574 : decode cX4_init 574 = .ok (.bipush 23, 2) := by decide +kernel
theorem dX4_init_576 : decode cX4_init 576 = .ok (.invokevirtual 31, 3) := by decide +kernel
theorem dX4_init_579 : decode cX4_init 579 = .ok (.aload_n 0, 1) := by decide +kernel
theorem dX4_init_580 : decode cX4_init 580 = .ok (.bipush 31, 2) := by decide +kernel
theorem dX4_init_582 : decode cX4_init 582 = .ok (.bipush 29, 2) := by decide +kernel
theorem dX4_init_584 : decode cX4_init 584 = .ok (.bipush 35, 2) := by decide +kernel
theorem dX4_init_586 : decode cX4_init 586 = .ok (.bipush 41, 2) := by decide +kernel
theorem dX4_init_588 : decode cX4_init 588 = .ok (.bipush 48, 2) := by decide +kernel
theorem dX4_init_590 : decode cX4_init 590 = .ok (.bipush 24, 2) := by decide +kernel
theorem dX4_init_592 : decode cX4_init 592 = .ok (.invokevirtual 31, 3) := by decide +kernel
theorem dX4_init_595 : decode cX4_init 595 = .ok (.aload_n 0, 1) := by decide +kernel
theorem dX4_init_596 : decode cX4_init 596 = .ok (.bipush 32, 2) := by decide +kernel
theorem dX4_init_598 : decode cX4_init 598 = .ok (.bipush 27, 2) := by decide +kernel
theorem dX4_init_600 : decode cX4_init 600 = .ok (.bipush 33, 2) := by decide +kernel
theorem dX4_init_602 : decode cX4_init 602 = .ok (.bipush 39, 2) := by decide +kernel
theorem dX4_init_604 : decode cX4_init 604 = .ok (.bipush 45, 2) := by decide +kernel
theorem dX4_init_606 : decode cX4_init 606 = .ok (.bipush 24, 2) := by decide +kernel
theorem dX4_init_608 : decode cX4_init 608 = .ok (.invokevirtual 31, 3) := by decide +kernel
theorem dX4_init_611 : decode cX4_init 611 = .ok (.aload_n 0, 1) := by decide +kernel
theorem dX4_init_612 : decode cX4_init 612 = .ok (.bipush 33, 2) := by decide +kernel
theorem dX4_init_614 : decode cX4_init 614 = .ok (.bipush 26, 2) := by decide +kernel
theorem dX4_init_616 : decode cX4_init 616 = .ok (.bipush 31, 2) := by decide +kernel
theorem dX4_init_618 : decode cX4_init 618 = .ok (.bipush 37, 2) := by decide +kernel
theorem dX4_init_620 : decode cX4_init 620 = .ok (.bipush 43, 2) := by decide +kernel
theorem dX4_init_622 : decode cX4_init 622 = .ok (.bipush 25, 2) := by decide +kernel
theorem dX4_init_624 : decode cX4_init 624 = .ok (.invokevirtual 31, 3) := by decide +kernel
theorem dX4_init_627 : decode cX4_init 627 = .ok (.aload_n 0, 1) := by decide +kernel
theorem dX4_init_628 : decode cX4_init 628 = .ok (.bipush 34, 2) := by decide +kernel
theorem dX4_init_630 : decode cX4_init 630 = .ok (.bipush 24, 2) := by decide +kernel
theorem dX4_init_632 : decode cX4_init 632 = .ok (.bipush 30, 2) := by decide +kernel
theorem dX4_init_634 : decode cX4_init 634 = .ok (.bipush 35, 2) := by decide +kernel
theorem dX4_init_636 : decode cX4_init 636 = .ok (.bipush 41, 2) := by decide +kernel
theorem dX4_init_638 : decode cX4_init 638 = .ok (.bipush 26, 2) := by decide +kernel
theorem dX4_init_640 : decode cX4_init 640 = .ok (.invokevirtual 31, 3) := by decide +kernel
theorem dX4_init_643 : decode cX4_init 643 = .ok (.aload_n 0, 1) := by decide +kernel
theorem dX4_init_644 : decode cX4_init 644 = .ok (.bipush 35, 2) := by decide +kernel
theorem dX4_init_646 : decode cX4_init 646 = .ok (.bipush 23, 2) := by decide +kernel
theorem dX4_init_648 : decode cX4_init 648 = .ok (.bipush 28, 2) := by decide +kernel
theorem dX4_init_650 : decode cX4_init 650 = .ok (.bipush 33, 2) := by decide +kernel
theorem dX4_init_652 : decode cX4_init 652 = .ok (.bipush 39, 2) := by decide +kernel
theorem dX4_init_654 : decode cX4_init 654 = .ok (.bipush 26, 2) := by decide +kernel
theorem dX4_init_656 : decode cX4_init 656 = .ok (.invokevirtual 31, 3) := by decide +kernel
theorem dX4_init_659 : decode cX4_init 659 = .ok (.aload_n 0, 1) := by decide +kernel
theorem dX4_init_660 : decode cX4_init 660 = .ok (.bipush 36, 2) := by decide +kernel
theorem dX4_init_662 : decode cX4_init 662 = .ok (.bipush 22, 2) := by decide +kernel
theorem dX4_init_664 : decode cX4_init 664 = .ok (.bipush 27, 2) := by decide +kernel
theorem dX4_init_666 : decode cX4_init 666 = .ok (.bipush 32, 2) := by decide +kernel
theorem dX4_init_668 : decode cX4_init 668 = .ok (.bipush 37, 2) := by decide +kernel
theorem dX4_init_670 : decode cX4_init 670 = .ok (.bipush 27, 2) := by decide +kernel
theorem dX4_init_672 : decode cX4_init 672 = .ok (.invokevirtual 31, 3) := by decide +kernel
theorem dX4_init_675 : decode cX4_init 675 = .ok (.aload_n 0, 1) := by decide +kernel
theorem dX4_init_676 : decode cX4_init 676 = .ok (.bipush 37, 2) := by decide +kernel
theorem dX4_init_678 : decode cX4_init 678 = .ok (.bipush 21, 2) := by decide +kernel
theorem dX4_init_680 : decode cX4_init 680 = .ok (.bipush 26, 2) := by decide +kernel
theorem dX4_init_682 : decode cX4_init 682 = .ok (.bipush 30, 2) := by decide +kernel
theorem dX4_init_684 : decode cX4_init 684 = .ok (.bipush 35, 2) := by decide +kernel
theorem dX4_init_686 : decode cX4_init 686 = .ok (.bipush 27, 2) := by decide +kernel
theorem dX4_init_688 : decode cX4_init 688 = .ok (.invokevirtual 31, 3) := by decide +kernel
theorem dX4_init_691 : decode cX4_init 691 = .ok (.aload_n 0, 1) := by decide +kernel
theorem dX4_init_692 : decode cX4_init 692 = .ok (.bipush 38, 2) := by decide +kernel
theorem dX4_init_694 : decode cX4_init 694 = .ok (.bipush 20, 2) := by decide +kernel
theorem dX4_init_696 : decode cX4_init 696 = .ok (.bipush 24, 2) := by decide +kernel
theorem dX4_init_698 : decode cX4_init 698 = .ok (.bipush 29, 2) := by decide +kernel
theorem dX4_init_700 : decode cX4_init 700 = .ok (.bipush 33, 2) := by decide +kernel
theorem dX4_init_702 : decode cX4_init 702 = .ok (.bipush 28, 2) := by decide +kernel
theorem dX4_init_704 : decode cX4_init 704 = .ok (.invokevirtual 31, 3) := by decide +kernel
theorem dX4_init_707 : decode cX4_init 707 = .ok (.aload_n 0, 1) := by decide +kernel
theorem dX4_init_708 : decode cX4_init 708 = .ok (.bipush 39, 2) := by decide +kernel
