theorem dX3_set_11 : decode cX3_set 11 = .ok (.if_icmp .le 13, 3) := by decide +kernel
theorem dX3_set_14 : decode cX3_set 14 = .ok (.new 34, 3) := by decide +kernel
theorem dX3_set_17 : decode cX3_set 17 = .ok (.dup, 1) := by decide +kernel
theorem dX3_set_18 : decode cX3_set 18 = .ok (.ldc 36, 2) := by decide +kernel
theorem dX3_set_20 : decode cX3_set 20 = .ok (.invokespecial 38, 3) := by decide +kernel
theorem dX3_set_23 : decode cX3_set 23 = .ok (.athrow, 1) := by decide +kernel
theorem dX3_set_24 : decode cX3_set 24 = .ok (.iload_n 3, 1) := by decide +kernel
theorem dX3_set_25 : decode cX3_set 25 = .ok (.invokestatic 41, 3) := by decide +kernel
theorem dX3_set_28 : decode cX3_set 28 = .ok (.aload_n 0, 1) := by decide +kernel
theorem dX3_set_29 : decode cX3_set 29 = .ok (.getfield 10, 3) := by decide +kernel
theorem dX3_set_32 : decode cX3_set 32 = .ok (.getfield 44, 3) := by decide +kernel
theorem dX3_set_35 : decode cX3_set 35 = .ok (.iload_n 1, 1) := by decide +kernel
theorem dX3_set_36 : decode cX3_set 36 = .ok (.iload_n 2, 1) := by decide +kernel
theorem dX3_set_37 : decode cX3_set 37 = .ok (.iastore, 1) := by decide +kernel
theorem dX3_set_38 : decode cX3_set 38 = .ok (.aload_n 0, 1) := by decide +kernel
theorem dX3_set_39 : decode cX3_set 39 = .ok (.getfield 10, 3) := by decide +kernel
theorem dX3_set_42 : decode cX3_set 42 = .ok (.getfield 48, 3) := by decide +kernel
theorem dX3_set_45 : decode cX3_set 45 = .ok (.iload_n 1, 1) := by decide +kernel
theorem dX3_set_46 : decode cX3_set 46 = .ok (.iload_n 3, 1) := by decide +kernel
theorem dX3_set_47 : decode cX3_set 47 = .ok (.iastore, 1) := by decide +kernel
theorem dX3_set_48 : decode cX3_set 48 = .ok (.return_, 1) := by decide +kernel
set_option maxRecDepth 20000 in
theorem ggX3_start_X2_begin : GoodIn wsX3_start wsX2_begin := goodIn_r _ [7, 8, 9, 10, 11, 12, 13, 14, 15, 16, 17, 18, 19, 20, 21, 22, 23, 24, 25, 26, 27, 28, 29, 30, 31, 32, 33, 37, 38, 39, 40, 41, 42, 43, 44, 45, 46, 47, 48, 49] (by decide +kernel) (by decide +kernel)
set_option maxRecDepth 20000 in
theorem gX3_start_X2_begin : GoodIn wsX3_start (wsV RX3 51 RX2 yX2_begin wsX2_begin) := goodIn_app (goodIn_of _ (by decide +kernel)) ggX3_start_X2_begin
theorem dX3_start_0 : decode cX3_start 0 = .ok (.aload_n 0, 1) := by decide +kernel
theorem dX3_start_1 : decode cX3_start 1 = .ok (.getfield 19, 3) := by decide +kernel
theorem dX3_start_4 : decode cX3_start 4 = .ok (.aload_n 0, 1) := by decide +kernel
theorem dX3_start_5 : decode cX3_start 5 = .ok (.getfield 10, 3) := by decide +kernel
theorem dX3_start_8 : decode cX3_start 8 = .ok (.invokevirtual 51, 3) := by decide +kernel
theorem dX3_start_11 : decode cX3_start 11 = .ok (.return_, 1) := by decide +kernel
set_option maxRecDepth 20000 in
theorem ggX3_put_X3_checkContext : GoodIn wsX3_put wsX3_checkContext := goodIn_ca (goodIn_r _ [5, 6, 7] (by decide +kernel) (by decide +kernel)) (goodIn_sub (fun _ h => List.mem_cons_of_mem _ (List.mem_append_left _ (List.mem_append_left _ (List.mem_append_right _ h)))) (by decide +kernel))
set_option maxRecDepth 20000 in
theorem gX3_put_X3_checkContext : GoodIn wsX3_put (va_wsS RX3 30 yX3_checkContext wsX3_checkContext) := goodIn_app (goodIn_of _ (by decide +kernel)) ggX3_put_X3_checkContext
set_option maxRecDepth 20000 in
theorem ggX3_put_X3_checkBin : GoodIn wsX3_put wsX3_checkBin := goodIn_ca (goodIn_r _ [10, 11, 12] (by decide +kernel) (by decide +kernel)) (goodIn_sub (fun _ h => List.mem_cons_of_mem _ (List.mem_append_left _ (List.mem_append_right _ h))) (by decide +kernel))
set_option maxRecDepth 20000 in
theorem gX3_put_X3_checkBin : GoodIn wsX3_put (va_wsS RX3 41 yX3_checkBin wsX3_checkBin) := goodIn_app (goodIn_of _ (by decide +kernel)) ggX3_put_X3_checkBin
set_option maxRecDepth 20000 in
theorem ggX3_put_X3_checkRoom : GoodIn wsX3_put wsX3_checkRoom := goodIn_ca (goodIn_r _ [16, 17, 18, 1, 19, 20, 21, 22, 4, 23, 24, 71, 72, 73, 74, 75, 76, 77, 78, 79, 80, 81, 82, 83, 84] (by decide +kernel) (by decide +kernel)) (goodIn_sub (fun _ h => List.mem_cons_of_mem _ (List.mem_append_right _ h)) (by decide +kernel))
set_option maxRecDepth 20000 in
theorem gX3_put_X3_checkRoom : GoodIn wsX3_put (wsV RX3 55 RX3 yX3_checkRoom wsX3_checkRoom) := goodIn_app (goodIn_of _ (by decide +kernel)) ggX3_put_X3_checkRoom
set_option maxRecDepth 20000 in
theorem ggX3_put_X2_decide : GoodIn wsX3_put wsX2_decide := goodIn_r _ [29, 30, 31, 32, 33, 34, 35, 36, 37, 38, 39, 40, 41, 42, 43, 44, 45, 46, 47, 48, 49, 50, 51, 52, 28, 53, 54, 55, 56, 57, 58, 59, 60, 61, 62, 63, 64, 65, 66, 67, 68, 69, 70, 74, 75, 76, 77, 78, 79, 80, 81, 82, 83, 84, 85, 86] (by decide +kernel) (by decide +kernel)
set_option maxRecDepth 20000 in
theorem gX3_put_X2_decide : GoodIn wsX3_put (wsV RX3 58 RX2 yX2_decide wsX2_decide) := goodIn_app (goodIn_of _ (by decide +kernel)) ggX3_put_X2_decide
theorem dX3_put_0 : decode cX3_put 0 = .ok (.iload_n 1, 1) := by decide +kernel
theorem dX3_put_1 : decode cX3_put 1 = .ok (.invokestatic 30, 3) := by decide +kernel
theorem dX3_put_4 : decode cX3_put 4 = .ok (.iload_n 2, 1) := by decide +kernel
theorem dX3_put_5 : decode cX3_put 5 = .ok (.invokestatic 41, 3) := by decide +kernel
theorem dX3_put_8 : decode cX3_put 8 = .ok (.aload_n 0, 1) := by decide +kernel
theorem dX3_put_9 : decode cX3_put 9 = .ok (.iconst 1, 1) := by decide +kernel
theorem dX3_put_10 : decode cX3_put 10 = .ok (.invokevirtual 55, 3) := by decide +kernel
theorem dX3_put_13 : decode cX3_put 13 = .ok (.aload_n 0, 1) := by decide +kernel
theorem dX3_put_14 : decode cX3_put 14 = .ok (.getfield 19, 3) := by decide +kernel
theorem dX3_put_17 : decode cX3_put 17 = .ok (.iload_n 1, 1) := by decide +kernel
theorem dX3_put_18 : decode cX3_put 18 = .ok (.iload_n 2, 1) := by decide +kernel
theorem dX3_put_19 : decode cX3_put 19 = .ok (.invokevirtual 58, 3) := by decide +kernel
theorem dX3_put_22 : decode cX3_put 22 = .ok (.return_, 1) := by decide +kernel
set_option maxRecDepth 20000 in
theorem ggX3_pass_X3_checkBin : GoodIn wsX3_pass wsX3_checkBin := goodIn_ca (goodIn_r _ [5, 6, 7] (by decide +kernel) (by decide +kernel)) (goodIn_sub (fun _ h => List.mem_cons_of_mem _ (List.mem_append_left _ (List.mem_append_right _ h))) (by decide +kernel))
set_option maxRecDepth 20000 in
theorem gX3_pass_X3_checkBin : GoodIn wsX3_pass (va_wsS RX3 41 yX3_checkBin wsX3_checkBin) := goodIn_app (goodIn_of _ (by decide +kernel)) ggX3_pass_X3_checkBin
set_option maxRecDepth 20000 in
theorem ggX3_pass_X3_checkRoom : GoodIn wsX3_pass wsX3_checkRoom := goodIn_ca (goodIn_r _ [11, 12, 13, 1, 14, 15, 16, 17, 4, 18, 19, 45, 46, 47, 48, 49, 50, 51, 52, 53, 54, 55, 56, 57, 58] (by decide +kernel) (by decide +kernel)) (goodIn_sub (fun _ h => List.mem_cons_of_mem _ (List.mem_append_right _ h)) (by decide +kernel))
set_option maxRecDepth 20000 in
theorem gX3_pass_X3_checkRoom : GoodIn wsX3_pass (wsV RX3 55 RX3 yX3_checkRoom wsX3_checkRoom) := goodIn_app (goodIn_of _ (by decide +kernel)) ggX3_pass_X3_checkRoom
set_option maxRecDepth 20000 in
theorem ggX3_pass_X2_goBy : GoodIn wsX3_pass wsX2_goBy := goodIn_r _ [24, 25, 26, 27, 28, 29, 30, 23, 31, 32, 33, 34, 35, 36, 37, 38, 39, 40, 41, 42, 43, 44, 48, 49, 50, 51, 52, 53, 54, 55, 56, 57, 58] (by decide +kernel) (by decide +kernel)
set_option maxRecDepth 20000 in
theorem gX3_pass_X2_goBy : GoodIn wsX3_pass (wsV RX3 62 RX2 yX2_goBy wsX2_goBy) := goodIn_app (goodIn_of _ (by decide +kernel)) ggX3_pass_X2_goBy
theorem dX3_pass_0 : decode cX3_pass 0 = .ok (.iload_n 1, 1) := by decide +kernel
theorem dX3_pass_1 : decode cX3_pass 1 = .ok (.invokestatic 41, 3) := by decide +kernel
theorem dX3_pass_4 : decode cX3_pass 4 = .ok (.aload_n 0, 1) := by decide +kernel
theorem dX3_pass_5 : decode cX3_pass 5 = .ok (.iconst 1, 1) := by decide +kernel
theorem dX3_pass_6 : decode cX3_pass 6 = .ok (.invokevirtual 55, 3) := by decide +kernel
theorem dX3_pass_9 : decode cX3_pass 9 = .ok (.aload_n 0, 1) := by decide +kernel
theorem dX3_pass_10 : decode cX3_pass 10 = .ok (.getfield 19, 3) := by decide +kernel
theorem dX3_pass_13 : decode cX3_pass 13 = .ok (.iload_n 1, 1) := by decide +kernel
theorem dX3_pass_14 : decode cX3_pass 14 = .ok (.invokevirtual 62, 3) := by decide +kernel
theorem dX3_pass_17 : decode cX3_pass 17 = .ok (.return_, 1) := by decide +kernel
set_option maxRecDepth 20000 in
theorem ggX3_golomb_X3_checkOrder : GoodIn wsX3_golomb wsX3_checkOrder := goodIn_ca (goodIn_r _ [5, 6, 7] (by decide +kernel) (by decide +kernel)) (goodIn_sub (fun _ h => List.mem_cons_of_mem _ (List.mem_append_left _ (List.mem_append_right _ h))) (by decide +kernel))
set_option maxRecDepth 20000 in
theorem gX3_golomb_X3_checkOrder : GoodIn wsX3_golomb (va_wsS RX3 65 yX3_checkOrder wsX3_checkOrder) := goodIn_app (goodIn_of _ (by decide +kernel)) ggX3_golomb_X3_checkOrder
set_option maxRecDepth 20000 in
theorem ggX3_golomb_X3_checkNumber : GoodIn wsX3_golomb wsX3_checkNumber := goodIn_ca (goodIn_r _ [10, 6, 7, 11, 12] (by decide +kernel) (by decide +kernel)) (goodIn_sub (fun _ h => List.mem_cons_of_mem _ (List.mem_append_left _ (List.mem_append_right _ h))) (by decide +kernel))
set_option maxRecDepth 20000 in
theorem gX3_golomb_X3_checkNumber : GoodIn wsX3_golomb (va_wsS RX3 68 yX3_checkNumber wsX3_checkNumber) := goodIn_app (goodIn_of _ (by decide +kernel)) ggX3_golomb_X3_checkNumber
set_option maxRecDepth 20000 in
theorem ggX3_golomb_X3_withoutSign : GoodIn wsX3_golomb wsX3_withoutSign := goodIn_r _ [15] (by decide +kernel) (by decide +kernel)
set_option maxRecDepth 20000 in
theorem gX3_golomb_X3_withoutSign : GoodIn wsX3_golomb (va_wsS RX3 72 yX3_withoutSign wsX3_withoutSign) := goodIn_app (goodIn_of _ (by decide +kernel)) ggX3_golomb_X3_withoutSign
set_option maxRecDepth 20000 in
theorem ggX3_golomb_X3_binsOfNumber : GoodIn wsX3_golomb wsX3_binsOfNumber := goodIn_r _ [18] (by decide +kernel) (by decide +kernel)
set_option maxRecDepth 20000 in
theorem gX3_golomb_X3_binsOfNumber : GoodIn wsX3_golomb (va_wsS RX3 76 yX3_binsOfNumber wsX3_binsOfNumber) := goodIn_app (goodIn_of _ (by decide +kernel)) ggX3_golomb_X3_binsOfNumber
set_option maxRecDepth 20000 in
theorem ggX3_golomb_X3_checkRoom : GoodIn wsX3_golomb wsX3_checkRoom := goodIn_ca (goodIn_r _ [22, 23, 24, 1, 25, 26, 27, 28, 4, 29, 30, 60, 61, 62, 63, 64, 65, 66, 67, 68, 69, 70, 71, 72, 73] (by decide +kernel) (by decide +kernel)) (goodIn_sub (fun _ h => List.mem_cons_of_mem _ (List.mem_append_right _ h)) (by decide +kernel))
set_option maxRecDepth 20000 in
theorem gX3_golomb_X3_checkRoom : GoodIn wsX3_golomb (wsV RX3 55 RX3 yX3_checkRoom wsX3_checkRoom) := goodIn_app (goodIn_of _ (by decide +kernel)) ggX3_golomb_X3_checkRoom
set_option maxRecDepth 20000 in
theorem ggX3_golomb_X2_writeNumber : GoodIn wsX3_golomb wsX2_writeNumber := goodIn_r _ [35, 36, 37, 38, 34, 39, 40, 41, 42, 43, 44, 45, 46, 47, 48, 49, 50, 51, 52, 53, 54, 55, 56, 57, 58, 59, 63, 64, 65, 66, 67, 68, 69, 70, 71, 72, 73] (by decide +kernel) (by decide +kernel)
set_option maxRecDepth 20000 in
theorem gX3_golomb_X2_writeNumber : GoodIn wsX3_golomb (wsV RX3 80 RX2 yX2_writeNumber wsX2_writeNumber) := goodIn_app (goodIn_of _ (by decide +kernel)) ggX3_golomb_X2_writeNumber
theorem dX3_golomb_0 : decode cX3_golomb 0 = .ok (.iload_n 1, 1) := by decide +kernel
theorem dX3_golomb_1 : decode cX3_golomb 1 = .ok (.invokestatic 65, 3) := by decide +kernel
theorem dX3_golomb_4 : decode cX3_golomb 4 = .ok (.iload_n 2, 1) := by decide +kernel
theorem dX3_golomb_5 : decode cX3_golomb 5 = .ok (.iload_n 3, 1) := by decide +kernel
theorem dX3_golomb_6 : decode cX3_golomb 6 = .ok (.invokestatic 68, 3) := by decide +kernel
theorem dX3_golomb_9 : decode cX3_golomb 9 = .ok (.iload_n 2, 1) := by decide +kernel
theorem dX3_golomb_10 : decode cX3_golomb 10 = .ok (.ifCond .eq 10, 3) := by decide +kernel
theorem dX3_golomb_13 : decode cX3_golomb 13 = .ok (.iload_n 3, 1) := by decide +kernel
theorem dX3_golomb_14 : decode cX3_golomb 14 = .ok (.invokestatic 72, 3) := by decide +kernel
theorem dX3_golomb_17 : decode cX3_golomb 17 = .ok (.goto 4, 3) := by decide +kernel
theorem dX3_golomb_20 : decode cX3_golomb 20 = .ok (.iload_n 3, 1) := by decide +kernel
theorem dX3_golomb_21 : decode cX3_golomb 21 = .ok (.istore 4, 2) := by decide +kernel
theorem dX3_golomb_23 : decode cX3_golomb 23 = .ok (.iload_n 1, 1) := by decide +kernel
theorem dX3_golomb_24 : decode cX3_golomb 24 = .ok (.iload 4, 2) := by decide +kernel
theorem dX3_golomb_26 : decode cX3_golomb 26 = .ok (.invokestatic 76, 3) := by decide +kernel
theorem dX3_golomb_29 : decode cX3_golomb 29 = .ok (.istore 5, 2) := by decide +kernel
theorem dX3_golomb_31 : decode cX3_golomb 31 = .ok (.aload_n 0, 1) := by decide +kernel
theorem dX3_golomb_32 : decode cX3_golomb 32 = .ok (.iload 5, 2) := by decide +kernel
theorem dX3_golomb_34 : decode cX3_golomb 34 = .ok (.invokevirtual 55, 3) := by decide +kernel
theorem dX3_golomb_37 : decode cX3_golomb 37 = .ok (.aload_n 0, 1) := by decide +kernel
theorem dX3_golomb_38 : decode cX3_golomb 38 = .ok (.getfield 19, 3) := by decide +kernel
theorem dX3_golomb_41 : decode cX3_golomb 41 = .ok (.iload_n 1, 1) := by decide +kernel
theorem dX3_golomb_42 : decode cX3_golomb 42 = .ok (.iload 4, 2) := by decide +kernel
theorem dX3_golomb_44 : decode cX3_golomb 44 = .ok (.invokevirtual 80, 3) := by decide +kernel
theorem dX3_golomb_47 : decode cX3_golomb 47 = .ok (.iload 5, 2) := by decide +kernel
theorem dX3_golomb_49 : decode cX3_golomb 49 = .ok (.ireturn, 1) := by decide +kernel
set_option maxRecDepth 20000 in
theorem ggX3_unary_X3_checkFirstContext : GoodIn wsX3_unary wsX3_checkFirstContext := goodIn_ca (goodIn_r _ [7, 8, 9] (by decide +kernel) (by decide +kernel)) (goodIn_sub (fun _ h => List.mem_cons_of_mem _ (List.mem_append_left _ (List.mem_append_right _ h))) (by decide +kernel))
set_option maxRecDepth 20000 in
theorem gX3_unary_X3_checkFirstContext : GoodIn wsX3_unary (va_wsS RX3 83 yX3_checkFirstContext wsX3_checkFirstContext) := goodIn_app (goodIn_of _ (by decide +kernel)) ggX3_unary_X3_checkFirstContext
set_option maxRecDepth 20000 in
theorem ggX3_unary_X3_checkMost : GoodIn wsX3_unary wsX3_checkMost := goodIn_ca (goodIn_r _ [12, 1, 2] (by decide +kernel) (by decide +kernel)) (goodIn_sub (fun _ h => List.mem_cons_of_mem _ (List.mem_append_left _ (List.mem_append_left _ (List.mem_append_right _ h)))) (by decide +kernel))
set_option maxRecDepth 20000 in
theorem gX3_unary_X3_checkMost : GoodIn wsX3_unary (va_wsS RX3 86 yX3_checkMost wsX3_checkMost) := goodIn_app (goodIn_of _ (by decide +kernel)) ggX3_unary_X3_checkMost
set_option maxRecDepth 20000 in
theorem ggX3_unary_X3_checkRoom : GoodIn wsX3_unary wsX3_checkRoom := goodIn_ca (goodIn_r _ [16, 17, 18, 3, 19, 20, 21, 22, 6, 23, 24, 78, 79, 80, 81, 82, 83, 84, 85, 86, 87, 88, 89, 90, 91] (by decide +kernel) (by decide +kernel)) (goodIn_sub (fun _ h => List.mem_cons_of_mem _ (List.mem_append_right _ h)) (by decide +kernel))
set_option maxRecDepth 20000 in
theorem gX3_unary_X3_checkRoom : GoodIn wsX3_unary (wsV RX3 55 RX3 yX3_checkRoom wsX3_checkRoom) := goodIn_app (goodIn_of _ (by decide +kernel)) ggX3_unary_X3_checkRoom
set_option maxRecDepth 20000 in
theorem ggX3_unary_X2_writeCount : GoodIn wsX3_unary wsX2_writeCount := goodIn_r _ [29, 30, 6, 31, 32, 33, 34, 35, 36, 37, 38, 28, 39, 40, 41, 42, 43, 44, 45, 46, 47, 48, 49, 50, 51, 52, 53, 54, 55, 56, 57, 58, 59, 60, 61, 62, 63, 64, 65, 66, 67, 68, 69, 70, 71, 72, 73, 74, 75, 76, 77, 81, 82, 83, 84, 85, 86, 87, 88, 89, 90, 91, 92, 93] (by decide +kernel) (by decide +kernel)
set_option maxRecDepth 20000 in
theorem gX3_unary_X2_writeCount : GoodIn wsX3_unary (wsV RX3 91 RX2 yX2_writeCount wsX2_writeCount) := goodIn_app (goodIn_of _ (by decide +kernel)) ggX3_unary_X2_writeCount
theorem dX3_unary_0 : decode cX3_unary 0 = .ok (.iload_n 1, 1) := by decide +kernel
theorem dX3_unary_1 : decode cX3_unary 1 = .ok (.invokestatic 83, 3) := by decide +kernel
theorem dX3_unary_4 : decode cX3_unary 4 = .ok (.iload_n 2, 1) := by decide +kernel
theorem dX3_unary_5 : decode cX3_unary 5 = .ok (.invokestatic 86, 3) := by decide +kernel
theorem dX3_unary_8 : decode cX3_unary 8 = .ok (.iload_n 3, 1) := by decide +kernel
theorem dX3_unary_9 : decode cX3_unary 9 = .ok (.ifCond .lt 8, 3) := by decide +kernel
theorem dX3_unary_12 : decode cX3_unary 12 = .ok (.iload_n 3, 1) := by decide +kernel
theorem dX3_unary_13 : decode cX3_unary 13 = .ok (.iload_n 2, 1) := by decide +kernel
theorem dX3_unary_14 : decode cX3_unary 14 = .ok (.if_icmp .le 13, 3) := by decide +kernel
theorem dX3_unary_17 : decode cX3_unary 17 = .ok (.new 34, 3) := by decide +kernel
theorem dX3_unary_20 : decode cX3_unary 20 = .ok (.dup, 1) := by decide +kernel
theorem dX3_unary_21 : decode cX3_unary 21 = .ok (.ldc 89, 2) := by decide +kernel
theorem dX3_unary_23 : decode cX3_unary 23 = .ok (.invokespecial 38, 3) := by decide +kernel
theorem dX3_unary_26 : decode cX3_unary 26 = .ok (.athrow, 1) := by decide +kernel
theorem dX3_unary_27 : decode cX3_unary 27 = .ok (.iload_n 3, 1) := by decide +kernel
theorem dX3_unary_28 : decode cX3_unary 28 = .ok (.iload_n 2, 1) := by decide +kernel
theorem dX3_unary_29 : decode cX3_unary 29 = .ok (.if_icmp .ge 9, 3) := by decide +kernel
theorem dX3_unary_32 : decode cX3_unary 32 = .ok (.iload_n 3, 1) := by decide +kernel
theorem dX3_unary_33 : decode cX3_unary 33 = .ok (.iconst 1, 1) := by decide +kernel
theorem dX3_unary_34 : decode cX3_unary 34 = .ok (.iadd, 1) := by decide +kernel
theorem dX3_unary_35 : decode cX3_unary 35 = .ok (.goto 4, 3) := by decide +kernel
theorem dX3_unary_38 : decode cX3_unary 38 = .ok (.iload_n 3, 1) := by decide +kernel
theorem dX3_unary_39 : decode cX3_unary 39 = .ok (.istore 4, 2) := by decide +kernel
theorem dX3_unary_41 : decode cX3_unary 41 = .ok (.aload_n 0, 1) := by decide +kernel
theorem dX3_unary_42 : decode cX3_unary 42 = .ok (.iload 4, 2) := by decide +kernel
theorem dX3_unary_44 : decode cX3_unary 44 = .ok (.invokevirtual 55, 3) := by decide +kernel
theorem dX3_unary_47 : decode cX3_unary 47 = .ok (.aload_n 0, 1) := by decide +kernel
theorem dX3_unary_48 : decode cX3_unary 48 = .ok (.getfield 19, 3) := by decide +kernel
theorem dX3_unary_51 : decode cX3_unary 51 = .ok (.iload_n 1, 1) := by decide +kernel
theorem dX3_unary_52 : decode cX3_unary 52 = .ok (.iload 4, 2) := by decide +kernel
theorem dX3_unary_54 : decode cX3_unary 54 = .ok (.iload_n 3, 1) := by decide +kernel
theorem dX3_unary_55 : decode cX3_unary 55 = .ok (.invokevirtual 91, 3) := by decide +kernel
theorem dX3_unary_58 : decode cX3_unary 58 = .ok (.iload 4, 2) := by decide +kernel
theorem dX3_unary_60 : decode cX3_unary 60 = .ok (.ireturn, 1) := by decide +kernel
set_option maxRecDepth 20000 in
theorem ggX3_mark_X3_checkRoom : GoodIn wsX3_mark wsX3_checkRoom := goodIn_ca (goodIn_r _ [6, 7, 8, 1, 9, 10, 11, 12, 5, 13, 14, 44, 45, 46, 47, 48, 49, 50, 51, 52, 53, 54, 55, 56, 57] (by decide +kernel) (by decide +kernel)) (goodIn_sub (fun _ h => List.mem_cons_of_mem _ (List.mem_append_right _ h)) (by decide +kernel))
set_option maxRecDepth 20000 in
theorem gX3_mark_X3_checkRoom : GoodIn wsX3_mark (wsV RX3 55 RX3 yX3_checkRoom wsX3_checkRoom) := goodIn_app (goodIn_of _ (by decide +kernel)) ggX3_mark_X3_checkRoom
set_option maxRecDepth 20000 in
theorem ggX3_mark_X2_writeMark : GoodIn wsX3_mark wsX2_writeMark := goodIn_r _ [19, 20, 21, 22, 23, 24, 18, 25, 26, 27, 28, 29, 30, 31, 32, 33, 34, 35, 36, 37, 38, 39, 40, 41, 42, 43, 47, 48, 49, 50, 51, 52, 53, 54, 55, 56, 57] (by decide +kernel) (by decide +kernel)
set_option maxRecDepth 20000 in
theorem gX3_mark_X2_writeMark : GoodIn wsX3_mark (wsV RX3 95 RX2 yX2_writeMark wsX2_writeMark) := goodIn_app (goodIn_of _ (by decide +kernel)) ggX3_mark_X2_writeMark
theorem dX3_mark_0 : decode cX3_mark 0 = .ok (.aload_n 0, 1) := by decide +kernel
theorem dX3_mark_1 : decode cX3_mark 1 = .ok (.iconst 1, 1) := by decide +kernel
theorem dX3_mark_2 : decode cX3_mark 2 = .ok (.invokevirtual 55, 3) := by decide +kernel
theorem dX3_mark_5 : decode cX3_mark 5 = .ok (.aload_n 0, 1) := by decide +kernel
theorem dX3_mark_6 : decode cX3_mark 6 = .ok (.getfield 19, 3) := by decide +kernel
theorem dX3_mark_9 : decode cX3_mark 9 = .ok (.invokevirtual 95, 3) := by decide +kernel
theorem dX3_mark_12 : decode cX3_mark 12 = .ok (.return_, 1) := by decide +kernel
set_option maxRecDepth 20000 in
theorem ggX3_finish_X3_checkWriting : GoodIn wsX3_finish wsX3_checkWriting := goodIn_ca (goodIn_r _ [7, 8, 9, 1, 10, 41, 42, 43, 44, 45, 46, 47, 48, 49, 50, 51, 52, 53, 54] (by decide +kernel) (by decide +kernel)) (goodIn_sub (fun _ h => List.mem_cons_of_mem _ (List.mem_append_right _ h)) (by decide +kernel))
set_option maxRecDepth 20000 in
theorem gX3_finish_X3_checkWriting : GoodIn wsX3_finish (wsV RX3 98 RX3 yX3_checkWriting wsX3_checkWriting) := goodIn_app (goodIn_of _ (by decide +kernel)) ggX3_finish_X3_checkWriting
set_option maxRecDepth 20000 in
theorem ggX3_finish_X2_end : GoodIn wsX3_finish wsX2_end := goodIn_r _ [15, 16, 17, 18, 19, 20, 21, 22, 23, 14, 24, 25, 26, 27, 28, 29, 30, 31, 32, 33, 34, 35, 36, 37, 38, 39, 40, 44, 45, 46, 47, 48, 49, 50, 51, 52, 53, 54] (by decide +kernel) (by decide +kernel)
set_option maxRecDepth 20000 in
theorem gX3_finish_X2_end : GoodIn wsX3_finish (wsV RX3 101 RX2 yX2_end wsX2_end) := goodIn_app (goodIn_of _ (by decide +kernel)) ggX3_finish_X2_end
theorem dX3_finish_0 : decode cX3_finish 0 = .ok (.aload_n 0, 1) := by decide +kernel
theorem dX3_finish_1 : decode cX3_finish 1 = .ok (.invokevirtual 98, 3) := by decide +kernel
theorem dX3_finish_4 : decode cX3_finish 4 = .ok (.aload_n 0, 1) := by decide +kernel
theorem dX3_finish_5 : decode cX3_finish 5 = .ok (.getfield 19, 3) := by decide +kernel
theorem dX3_finish_8 : decode cX3_finish 8 = .ok (.invokevirtual 101, 3) := by decide +kernel
theorem dX3_finish_11 : decode cX3_finish 11 = .ok (.aload_n 0, 1) := by decide +kernel
theorem dX3_finish_12 : decode cX3_finish 12 = .ok (.getfield 19, 3) := by decide +kernel
theorem dX3_finish_15 : decode cX3_finish 15 = .ok (.getfield 104, 3) := by decide +kernel
theorem dX3_finish_18 : decode cX3_finish 18 = .ok (.ireturn, 1) := by decide +kernel
theorem dX3_size_0 : decode cX3_size 0 = .ok (.aload_n 0, 1) := by decide +kernel
theorem dX3_size_1 : decode cX3_size 1 = .ok (.getfield 19, 3) := by decide +kernel
theorem dX3_size_4 : decode cX3_size 4 = .ok (.getfield 104, 3) := by decide +kernel
theorem dX3_size_7 : decode cX3_size 7 = .ok (.ireturn, 1) := by decide +kernel
set_option maxRecDepth 20000 in
theorem ggX3_at_X3_checkByteIndex : GoodIn wsX3_at wsX3_checkByteIndex := goodIn_ca (goodIn_r _ [7, 8, 9, 1, 10, 11, 12, 13, 14, 15, 16, 17, 18, 19, 20, 21, 22, 23, 24] (by decide +kernel) (by decide +kernel)) (goodIn_sub (fun _ h => List.mem_cons_of_mem _ (List.mem_append_right _ h)) (by decide +kernel))
set_option maxRecDepth 20000 in
theorem gX3_at_X3_checkByteIndex : GoodIn wsX3_at (wsV RX3 108 RX3 yX3_checkByteIndex wsX3_checkByteIndex) := goodIn_app (goodIn_of _ (by decide +kernel)) ggX3_at_X3_checkByteIndex
theorem dX3_at_0 : decode cX3_at 0 = .ok (.aload_n 0, 1) := by decide +kernel
theorem dX3_at_1 : decode cX3_at 1 = .ok (.iload_n 1, 1) := by decide +kernel
theorem dX3_at_2 : decode cX3_at 2 = .ok (.invokevirtual 108, 3) := by decide +kernel
theorem dX3_at_5 : decode cX3_at 5 = .ok (.aload_n 0, 1) := by decide +kernel
theorem dX3_at_6 : decode cX3_at 6 = .ok (.getfield 19, 3) := by decide +kernel
theorem dX3_at_9 : decode cX3_at 9 = .ok (.getfield 111, 3) := by decide +kernel
theorem dX3_at_12 : decode cX3_at 12 = .ok (.iload_n 1, 1) := by decide +kernel
theorem dX3_at_13 : decode cX3_at 13 = .ok (.iaload, 1) := by decide +kernel
theorem dX3_at_14 : decode cX3_at 14 = .ok (.ireturn, 1) := by decide +kernel
set_option maxRecDepth 20000 in
theorem ggX3_alter_X3_checkByteIndex : GoodIn wsX3_alter wsX3_checkByteIndex := goodIn_ca (goodIn_r _ [9, 10, 11, 3, 12, 13, 14, 15, 16, 17, 18, 19, 20, 21, 22, 23, 24, 25, 26] (by decide +kernel) (by decide +kernel)) (goodIn_sub (fun _ h => List.mem_cons_of_mem _ (List.mem_append_right _ h)) (by decide +kernel))
set_option maxRecDepth 20000 in
theorem gX3_alter_X3_checkByteIndex : GoodIn wsX3_alter (wsV RX3 108 RX3 yX3_checkByteIndex wsX3_checkByteIndex) := goodIn_app (goodIn_of _ (by decide +kernel)) ggX3_alter_X3_checkByteIndex
theorem dX3_alter_0 : decode cX3_alter 0 = .ok (.aload_n 0, 1) := by decide +kernel
theorem dX3_alter_1 : decode cX3_alter 1 = .ok (.iload_n 1, 1) := by decide +kernel
theorem dX3_alter_2 : decode cX3_alter 2 = .ok (.invokevirtual 108, 3) := by decide +kernel
theorem dX3_alter_5 : decode cX3_alter 5 = .ok (.iload_n 2, 1) := by decide +kernel
theorem dX3_alter_6 : decode cX3_alter 6 = .ok (.ifCond .lt 10, 3) := by decide +kernel
theorem dX3_alter_9 : decode cX3_alter 9 = .ok (.iload_n 2, 1) := by decide +kernel
theorem dX3_alter_10 : decode cX3_alter 10 = .ok (.sipush 255, 3) := by decide +kernel
theorem dX3_alter_13 : decode cX3_alter 13 = .ok (.if_icmp .le 13, 3) := by decide +kernel
theorem dX3_alter_16 : decode cX3_alter 16 = .ok (.new 34, 3) := by decide +kernel
theorem dX3_alter_19 : decode cX3_alter 19 = .ok (.dup, 1) := by decide +kernel
theorem dX3_alter_20 : decode cX3_alter 20 = .ok (.ldc 114, 2) := by decide +kernel
theorem dX3_alter_22 : decode cX3_alter 22 = .ok (.invokespecial 38, 3) := by decide +kernel
theorem dX3_alter_25 : decode cX3_alter 25 = .ok (.athrow, 1) := by decide +kernel
theorem dX3_alter_26 : decode cX3_alter 26 = .ok (.aload_n 0, 1) := by decide +kernel
theorem dX3_alter_27 : decode cX3_alter 27 = .ok (.getfield 19, 3) := by decide +kernel
theorem dX3_alter_30 : decode cX3_alter 30 = .ok (.getfield 111, 3) := by decide +kernel
theorem dX3_alter_33 : decode cX3_alter 33 = .ok (.iload_n 1, 1) := by decide +kernel
theorem dX3_alter_34 : decode cX3_alter 34 = .ok (.iload_n 2, 1) := by decide +kernel
theorem dX3_alter_35 : decode cX3_alter 35 = .ok (.iastore, 1) := by decide +kernel
theorem dX3_alter_36 : decode cX3_alter 36 = .ok (.return_, 1) := by decide +kernel
set_option maxRecDepth 20000 in
theorem ggX3_load_X1_begin : GoodIn wsX3_load wsX1_begin := goodIn_r _ [12, 13, 14, 15, 16, 17, 18, 19, 20, 21, 22, 23, 24, 25, 26, 27, 28, 29, 30, 31, 32, 33, 34, 11, 35, 36, 37, 38, 39, 54, 55, 56, 57, 58, 59, 60, 61, 62] (by decide +kernel) (by decide +kernel)
set_option maxRecDepth 20000 in
theorem gX3_load_X1_begin : GoodIn wsX3_load (wsV RX3 121 RX1 yX1_begin wsX1_begin) := goodIn_app (goodIn_of _ (by decide +kernel)) ggX3_load_X1_begin
theorem dX3_load_0 : decode cX3_load 0 = .ok (.aload_n 0, 1) := by decide +kernel
theorem dX3_load_1 : decode cX3_load 1 = .ok (.getfield 19, 3) := by decide +kernel
theorem dX3_load_4 : decode cX3_load 4 = .ok (.getfield 104, 3) := by decide +kernel
theorem dX3_load_7 : decode cX3_load 7 = .ok (.ifCond .ne 13, 3) := by decide +kernel
theorem dX3_load_10 : decode cX3_load 10 = .ok (.new 116, 3) := by decide +kernel
theorem dX3_load_13 : decode cX3_load 13 = .ok (.dup, 1) := by decide +kernel
theorem dX3_load_14 : decode cX3_load 14 = .ok (.ldc 118, 2) := by decide +kernel
theorem dX3_load_16 : decode cX3_load 16 = .ok (.invokespecial 120, 3) := by decide +kernel
theorem dX3_load_19 : decode cX3_load 19 = .ok (.athrow, 1) := by decide +kernel
theorem dX3_load_20 : decode cX3_load 20 = .ok (.aload_n 0, 1) := by decide +kernel
theorem dX3_load_21 : decode cX3_load 21 = .ok (.getfield 26, 3) := by decide +kernel
theorem dX3_load_24 : decode cX3_load 24 = .ok (.aload_n 0, 1) := by decide +kernel
theorem dX3_load_25 : decode cX3_load 25 = .ok (.getfield 10, 3) := by decide +kernel
theorem dX3_load_28 : decode cX3_load 28 = .ok (.aload_n 0, 1) := by decide +kernel
theorem dX3_load_29 : decode cX3_load 29 = .ok (.getfield 19, 3) := by decide +kernel
theorem dX3_load_32 : decode cX3_load 32 = .ok (.getfield 111, 3) := by decide +kernel
theorem dX3_load_35 : decode cX3_load 35 = .ok (.aload_n 0, 1) := by decide +kernel
theorem dX3_load_36 : decode cX3_load 36 = .ok (.getfield 19, 3) := by decide +kernel
theorem dX3_load_39 : decode cX3_load 39 = .ok (.getfield 104, 3) := by decide +kernel
theorem dX3_load_42 : decode cX3_load 42 = .ok (.invokevirtual 121, 3) := by decide +kernel
theorem dX3_load_45 : decode cX3_load 45 = .ok (.ireturn, 1) := by decide +kernel
set_option maxRecDepth 20000 in
theorem ggX3_get_X3_checkContext : GoodIn wsX3_get wsX3_checkContext := goodIn_ca (goodIn_r _ [5, 6, 7] (by decide +kernel) (by decide +kernel)) (goodIn_sub (fun _ h => List.mem_cons_of_mem _ (List.mem_append_left _ (List.mem_append_right _ h))) (by decide +kernel))
set_option maxRecDepth 20000 in
theorem gX3_get_X3_checkContext : GoodIn wsX3_get (va_wsS RX3 30 yX3_checkContext wsX3_checkContext) := goodIn_app (goodIn_of _ (by decide +kernel)) ggX3_get_X3_checkContext
set_option maxRecDepth 20000 in
theorem ggX3_get_X3_checkReading : GoodIn wsX3_get wsX3_checkReading := goodIn_ca (goodIn_r _ [11, 12, 13, 1, 14, 54, 55, 56, 57, 58, 59, 60, 61, 62, 63] (by decide +kernel) (by decide +kernel)) (goodIn_sub (fun _ h => List.mem_cons_of_mem _ (List.mem_append_right _ h)) (by decide +kernel))
set_option maxRecDepth 20000 in
theorem gX3_get_X3_checkReading : GoodIn wsX3_get (wsV RX3 124 RX3 yX3_checkReading wsX3_checkReading) := goodIn_app (goodIn_of _ (by decide +kernel)) ggX3_get_X3_checkReading
set_option maxRecDepth 20000 in
theorem ggX3_get_X1_decide : GoodIn wsX3_get wsX1_decide := goodIn_r _ [19, 20, 21, 22, 23, 24, 25, 26, 27, 28, 29, 30, 31, 32, 33, 34, 35, 36, 37, 38, 39, 40, 41, 18, 42, 43, 44, 45, 46, 47, 48, 49, 50, 51, 52, 53, 57, 58, 59, 60, 61, 62, 63, 64, 65] (by decide +kernel) (by decide +kernel)
set_option maxRecDepth 20000 in
theorem gX3_get_X1_decide : GoodIn wsX3_get (wsV RX3 127 RX1 yX1_decide wsX1_decide) := goodIn_app (goodIn_of _ (by decide +kernel)) ggX3_get_X1_decide
theorem dX3_get_0 : decode cX3_get 0 = .ok (.iload_n 1, 1) := by decide +kernel
theorem dX3_get_1 : decode cX3_get 1 = .ok (.invokestatic 30, 3) := by decide +kernel
theorem dX3_get_4 : decode cX3_get 4 = .ok (.aload_n 0, 1) := by decide +kernel
theorem dX3_get_5 : decode cX3_get 5 = .ok (.invokevirtual 124, 3) := by decide +kernel
theorem dX3_get_8 : decode cX3_get 8 = .ok (.aload_n 0, 1) := by decide +kernel
theorem dX3_get_9 : decode cX3_get 9 = .ok (.getfield 26, 3) := by decide +kernel
theorem dX3_get_12 : decode cX3_get 12 = .ok (.iload_n 1, 1) := by decide +kernel
theorem dX3_get_13 : decode cX3_get 13 = .ok (.invokevirtual 127, 3) := by decide +kernel
theorem dX3_get_16 : decode cX3_get 16 = .ok (.ireturn, 1) := by decide +kernel
set_option maxRecDepth 20000 in
theorem ggX3_getPass_X3_checkReading : GoodIn wsX3_getPass wsX3_checkReading := goodIn_ca (goodIn_r _ [6, 7, 8, 1, 9, 28, 29, 30, 31, 32, 33, 34, 35, 36, 37] (by decide +kernel) (by decide +kernel)) (goodIn_sub (fun _ h => List.mem_cons_of_mem _ (List.mem_append_right _ h)) (by decide +kernel))
set_option maxRecDepth 20000 in
theorem gX3_getPass_X3_checkReading : GoodIn wsX3_getPass (wsV RX3 124 RX3 yX3_checkReading wsX3_checkReading) := goodIn_app (goodIn_of _ (by decide +kernel)) ggX3_getPass_X3_checkReading
set_option maxRecDepth 20000 in
theorem ggX3_getPass_X1_goBy : GoodIn wsX3_getPass wsX1_goBy := goodIn_r _ [14, 15, 16, 17, 18, 19, 13, 20, 21, 22, 23, 24, 25, 26, 27, 31, 32, 33, 34, 35, 36, 37] (by decide +kernel) (by decide +kernel)
set_option maxRecDepth 20000 in
theorem gX3_getPass_X1_goBy : GoodIn wsX3_getPass (wsV RX3 129 RX1 yX1_goBy wsX1_goBy) := goodIn_app (goodIn_of _ (by decide +kernel)) ggX3_getPass_X1_goBy
theorem dX3_getPass_0 : decode cX3_getPass 0 = .ok (.aload_n 0, 1) := by decide +kernel
theorem dX3_getPass_1 : decode cX3_getPass 1 = .ok (.invokevirtual 124, 3) := by decide +kernel
theorem dX3_getPass_4 : decode cX3_getPass 4 = .ok (.aload_n 0, 1) := by decide +kernel
theorem dX3_getPass_5 : decode cX3_getPass 5 = .ok (.getfield 26, 3) := by decide +kernel
theorem dX3_getPass_8 : decode cX3_getPass 8 = .ok (.invokevirtual 129, 3) := by decide +kernel
theorem dX3_getPass_11 : decode cX3_getPass 11 = .ok (.ireturn, 1) := by decide +kernel
set_option maxRecDepth 20000 in
theorem ggX3_getGolomb_X3_checkOrder : GoodIn wsX3_getGolomb wsX3_checkOrder := goodIn_ca (goodIn_r _ [6, 7, 8] (by decide +kernel) (by decide +kernel)) (goodIn_sub (fun _ h => List.mem_cons_of_mem _ (List.mem_append_left _ (List.mem_append_right _ h))) (by decide +kernel))
set_option maxRecDepth 20000 in
theorem gX3_getGolomb_X3_checkOrder : GoodIn wsX3_getGolomb (va_wsS RX3 65 yX3_checkOrder wsX3_checkOrder) := goodIn_app (goodIn_of _ (by decide +kernel)) ggX3_getGolomb_X3_checkOrder
set_option maxRecDepth 20000 in
theorem ggX3_getGolomb_X3_checkReading : GoodIn wsX3_getGolomb wsX3_checkReading := goodIn_ca (goodIn_r _ [12, 13, 14, 1, 15, 48, 49, 50, 51, 52, 53, 54, 55, 56, 57] (by decide +kernel) (by decide +kernel)) (goodIn_sub (fun _ h => List.mem_cons_of_mem _ (List.mem_append_right _ h)) (by decide +kernel))
set_option maxRecDepth 20000 in
theorem gX3_getGolomb_X3_checkReading : GoodIn wsX3_getGolomb (wsV RX3 124 RX3 yX3_checkReading wsX3_checkReading) := goodIn_app (goodIn_of _ (by decide +kernel)) ggX3_getGolomb_X3_checkReading
set_option maxRecDepth 20000 in
theorem ggX3_getGolomb_X1_readNumber : GoodIn wsX3_getGolomb wsX1_readNumber := goodIn_r _ [20, 21, 22, 23, 24, 19, 25, 26, 27, 28, 29, 30, 31, 32, 33, 34, 35, 36, 37, 38, 39, 40, 41, 42, 43, 44, 51, 52, 53, 54, 55, 56, 57] (by decide +kernel) (by decide +kernel)
set_option maxRecDepth 20000 in
theorem gX3_getGolomb_X1_readNumber : GoodIn wsX3_getGolomb (wsV RX3 132 RX1 yX1_readNumber wsX1_readNumber) := goodIn_app (goodIn_of _ (by decide +kernel)) ggX3_getGolomb_X1_readNumber
set_option maxRecDepth 20000 in
theorem ggX3_getGolomb_X3_withSign : GoodIn wsX3_getGolomb wsX3_withSign := goodIn_r _ [47] (by decide +kernel) (by decide +kernel)
set_option maxRecDepth 20000 in
theorem gX3_getGolomb_X3_withSign : GoodIn wsX3_getGolomb (va_wsS RX3 136 yX3_withSign wsX3_withSign) := goodIn_app (goodIn_of _ (by decide +kernel)) ggX3_getGolomb_X3_withSign
theorem dX3_getGolomb_0 : decode cX3_getGolomb 0 = .ok (.iload_n 1, 1) := by decide +kernel
theorem dX3_getGolomb_1 : decode cX3_getGolomb 1 = .ok (.invokestatic 65, 3) := by decide +kernel
theorem dX3_getGolomb_4 : decode cX3_getGolomb 4 = .ok (.aload_n 0, 1) := by decide +kernel
theorem dX3_getGolomb_5 : decode cX3_getGolomb 5 = .ok (.invokevirtual 124, 3) := by decide +kernel
theorem dX3_getGolomb_8 : decode cX3_getGolomb 8 = .ok (.aload_n 0, 1) := by decide +kernel
theorem dX3_getGolomb_9 : decode cX3_getGolomb 9 = .ok (.getfield 26, 3) := by decide +kernel
theorem dX3_getGolomb_12 : decode cX3_getGolomb 12 = .ok (.iload_n 1, 1) := by decide +kernel
theorem dX3_getGolomb_13 : decode cX3_getGolomb 13 = .ok (.invokevirtual 132, 3) := by decide +kernel
theorem dX3_getGolomb_16 : decode cX3_getGolomb 16 = .ok (.istore_n 3, 1) := by decide +kernel
theorem dX3_getGolomb_17 : decode cX3_getGolomb 17 = .ok (.iload_n 2, 1) := by decide +kernel
theorem dX3_getGolomb_18 : decode cX3_getGolomb 18 = .ok (.ifCond .eq 16, 3) := by decide +kernel
theorem dX3_getGolomb_21 : decode cX3_getGolomb 21 = .ok (.iload_n 3, 1) := by decide +kernel
theorem dX3_getGolomb_22 : decode cX3_getGolomb 22 = .ok (.ldc 135, 2) := by decide +kernel
theorem dX3_getGolomb_24 : decode cX3_getGolomb 24 = .ok (.if_icmp .eq 10, 3) := by decide +kernel
theorem dX3_getGolomb_27 : decode cX3_getGolomb 27 = .ok (.iload_n 3, 1) := by decide +kernel
theorem dX3_getGolomb_28 : decode cX3_getGolomb 28 = .ok (.invokestatic 136, 3) := by decide +kernel
theorem dX3_getGolomb_31 : decode cX3_getGolomb 31 = .ok (.goto 4, 3) := by decide +kernel
theorem dX3_getGolomb_34 : decode cX3_getGolomb 34 = .ok (.iload_n 3, 1) := by decide +kernel
theorem dX3_getGolomb_35 : decode cX3_getGolomb 35 = .ok (.ireturn, 1) := by decide +kernel
set_option maxRecDepth 20000 in
theorem ggX3_getUnary_X3_checkFirstContext : GoodIn wsX3_getUnary wsX3_checkFirstContext := goodIn_ca (goodIn_r _ [5, 6, 7] (by decide +kernel) (by decide +kernel)) (goodIn_sub (fun _ h => List.mem_cons_of_mem _ (List.mem_append_left _ (List.mem_append_left _ (List.mem_append_right _ h)))) (by decide +kernel))
set_option maxRecDepth 20000 in
theorem gX3_getUnary_X3_checkFirstContext : GoodIn wsX3_getUnary (va_wsS RX3 83 yX3_checkFirstContext wsX3_checkFirstContext) := goodIn_app (goodIn_of _ (by decide +kernel)) ggX3_getUnary_X3_checkFirstContext
set_option maxRecDepth 20000 in
theorem ggX3_getUnary_X3_checkMost : GoodIn wsX3_getUnary wsX3_checkMost := goodIn_ca (goodIn_r _ [10, 11, 12] (by decide +kernel) (by decide +kernel)) (goodIn_sub (fun _ h => List.mem_cons_of_mem _ (List.mem_append_left _ (List.mem_append_right _ h))) (by decide +kernel))
set_option maxRecDepth 20000 in
theorem gX3_getUnary_X3_checkMost : GoodIn wsX3_getUnary (va_wsS RX3 86 yX3_checkMost wsX3_checkMost) := goodIn_app (goodIn_of _ (by decide +kernel)) ggX3_getUnary_X3_checkMost
set_option maxRecDepth 20000 in
theorem ggX3_getUnary_X3_checkReading : GoodIn wsX3_getUnary wsX3_checkReading := goodIn_ca (goodIn_r _ [16, 17, 18, 1, 19, 66, 67, 68, 69, 70, 71, 72, 73, 74, 75] (by decide +kernel) (by decide +kernel)) (goodIn_sub (fun _ h => List.mem_cons_of_mem _ (List.mem_append_right _ h)) (by decide +kernel))
set_option maxRecDepth 20000 in
theorem gX3_getUnary_X3_checkReading : GoodIn wsX3_getUnary (wsV RX3 124 RX3 yX3_checkReading wsX3_checkReading) := goodIn_app (goodIn_of _ (by decide +kernel)) ggX3_getUnary_X3_checkReading
set_option maxRecDepth 20000 in
theorem ggX3_getUnary_X1_readCount : GoodIn wsX3_getUnary wsX1_readCount := goodIn_r _ [24, 25, 4, 26, 27, 28, 29, 30, 31, 32, 33, 23, 34, 35, 36, 37, 38, 39, 40, 41, 42, 43, 44, 45, 46, 47, 48, 49, 50, 51, 52, 53, 54, 55, 56, 57, 58, 59, 60, 61, 62, 63, 64, 65, 69, 70, 71, 72, 73, 74, 75, 76, 77] (by decide +kernel) (by decide +kernel)
set_option maxRecDepth 20000 in
theorem gX3_getUnary_X1_readCount : GoodIn wsX3_getUnary (wsV RX3 139 RX1 yX1_readCount wsX1_readCount) := goodIn_app (goodIn_of _ (by decide +kernel)) ggX3_getUnary_X1_readCount
theorem dX3_getUnary_0 : decode cX3_getUnary 0 = .ok (.iload_n 1, 1) := by decide +kernel
theorem dX3_getUnary_1 : decode cX3_getUnary 1 = .ok (.invokestatic 83, 3) := by decide +kernel
theorem dX3_getUnary_4 : decode cX3_getUnary 4 = .ok (.iload_n 2, 1) := by decide +kernel
theorem dX3_getUnary_5 : decode cX3_getUnary 5 = .ok (.invokestatic 86, 3) := by decide +kernel
theorem dX3_getUnary_8 : decode cX3_getUnary 8 = .ok (.aload_n 0, 1) := by decide +kernel
theorem dX3_getUnary_9 : decode cX3_getUnary 9 = .ok (.invokevirtual 124, 3) := by decide +kernel
theorem dX3_getUnary_12 : decode cX3_getUnary 12 = .ok (.aload_n 0, 1) := by decide +kernel
theorem dX3_getUnary_13 : decode cX3_getUnary 13 = .ok (.getfield 26, 3) := by decide +kernel
theorem dX3_getUnary_16 : decode cX3_getUnary 16 = .ok (.iload_n 1, 1) := by decide +kernel
theorem dX3_getUnary_17 : decode cX3_getUnary 17 = .ok (.iload_n 2, 1) := by decide +kernel
theorem dX3_getUnary_18 : decode cX3_getUnary 18 = .ok (.invokevirtual 139, 3) := by decide +kernel
theorem dX3_getUnary_21 : decode cX3_getUnary 21 = .ok (.ireturn, 1) := by decide +kernel
set_option maxRecDepth 20000 in
theorem ggX3_ended_X3_checkReading : GoodIn wsX3_ended wsX3_checkReading := goodIn_ca (goodIn_r _ [6, 7, 8, 1, 9, 33, 34, 35, 36, 37, 38, 39, 40, 41, 42] (by decide +kernel) (by decide +kernel)) (goodIn_sub (fun _ h => List.mem_cons_of_mem _ (List.mem_append_right _ h)) (by decide +kernel))
set_option maxRecDepth 20000 in
theorem gX3_ended_X3_checkReading : GoodIn wsX3_ended (wsV RX3 124 RX3 yX3_checkReading wsX3_checkReading) := goodIn_app (goodIn_of _ (by decide +kernel)) ggX3_ended_X3_checkReading
set_option maxRecDepth 20000 in
theorem ggX3_ended_X1_meetsEnd : GoodIn wsX3_ended wsX1_meetsEnd := goodIn_r _ [14, 15, 16, 17, 18, 19, 20, 13, 21, 22, 23, 24, 25, 26, 27, 28, 29, 30, 31, 32, 36, 37, 38, 39, 40, 41, 42] (by decide +kernel) (by decide +kernel)
set_option maxRecDepth 20000 in
theorem gX3_ended_X1_meetsEnd : GoodIn wsX3_ended (wsV RX3 142 RX1 yX1_meetsEnd wsX1_meetsEnd) := goodIn_app (goodIn_of _ (by decide +kernel)) ggX3_ended_X1_meetsEnd
theorem dX3_ended_0 : decode cX3_ended 0 = .ok (.aload_n 0, 1) := by decide +kernel
theorem dX3_ended_1 : decode cX3_ended 1 = .ok (.invokevirtual 124, 3) := by decide +kernel
theorem dX3_ended_4 : decode cX3_ended 4 = .ok (.aload_n 0, 1) := by decide +kernel
theorem dX3_ended_5 : decode cX3_ended 5 = .ok (.getfield 26, 3) := by decide +kernel
theorem dX3_ended_8 : decode cX3_ended 8 = .ok (.invokevirtual 142, 3) := by decide +kernel
theorem dX3_ended_11 : decode cX3_ended 11 = .ok (.ireturn, 1) := by decide +kernel
set_option maxRecDepth 20000 in
theorem ggX3_about_X3_checkContext : GoodIn wsX3_about wsX3_checkContext := goodIn_ca (goodIn_r _ [10, 11, 12] (by decide +kernel) (by decide +kernel)) (goodIn_sub (fun _ h => List.mem_cons_of_mem _ (List.mem_append_right _ h)) (by decide +kernel))
set_option maxRecDepth 20000 in
theorem gX3_about_X3_checkContext : GoodIn wsX3_about (va_wsS RX3 30 yX3_checkContext wsX3_checkContext) := goodIn_app (goodIn_of _ (by decide +kernel)) ggX3_about_X3_checkContext
theorem dX3_about_0 : decode cX3_about 0 = .ok (.iload_n 2, 1) := by decide +kernel
theorem dX3_about_1 : decode cX3_about 1 = .ok (.invokestatic 30, 3) := by decide +kernel
theorem dX3_about_4 : decode cX3_about 4 = .ok (.iload_n 1, 1) := by decide +kernel
theorem dX3_about_5 : decode cX3_about 5 = .ok (.ifCond .eq 13, 3) := by decide +kernel
theorem dX3_about_8 : decode cX3_about 8 = .ok (.aload_n 0, 1) := by decide +kernel
theorem dX3_about_9 : decode cX3_about 9 = .ok (.getfield 26, 3) := by decide +kernel
theorem dX3_about_12 : decode cX3_about 12 = .ok (.getfield 146, 3) := by decide +kernel
theorem dX3_about_15 : decode cX3_about 15 = .ok (.goto 10, 3) := by decide +kernel
theorem dX3_about_18 : decode cX3_about 18 = .ok (.aload_n 0, 1) := by decide +kernel
theorem dX3_about_19 : decode cX3_about 19 = .ok (.getfield 19, 3) := by decide +kernel
theorem dX3_about_22 : decode cX3_about 22 = .ok (.getfield 149, 3) := by decide +kernel
theorem dX3_about_25 : decode cX3_about 25 = .ok (.astore_n 3, 1) := by decide +kernel
theorem dX3_about_26 : decode cX3_about 26 = .ok (.iconst 2, 1) := by decide +kernel
theorem dX3_about_27 : decode cX3_about 27 = .ok (.aload_n 3, 1) := by decide +kernel
theorem dX3_about_28 : decode cX3_about 28 = .ok (.getfield 44, 3) := by decide +kernel
theorem dX3_about_31 : decode cX3_about 31 = .ok (.iload_n 2, 1) := by decide +kernel
theorem dX3_about_32 : decode cX3_about 32 = .ok (.iaload, 1) := by decide +kernel
theorem dX3_about_33 : decode cX3_about 33 = .ok (.imul, 1) := by decide +kernel
theorem dX3_about_34 : decode cX3_about 34 = .ok (.aload_n 3, 1) := by decide +kernel
theorem dX3_about_35 : decode cX3_about 35 = .ok (.getfield 48, 3) := by decide +kernel
theorem dX3_about_38 : decode cX3_about 38 = .ok (.iload_n 2, 1) := by decide +kernel
theorem dX3_about_39 : decode cX3_about 39 = .ok (.iaload, 1) := by decide +kernel
theorem dX3_about_40 : decode cX3_about 40 = .ok (.iadd, 1) := by decide +kernel
theorem dX3_about_41 : decode cX3_about 41 = .ok (.ireturn, 1) := by decide +kernel
theorem dX3_engine_0 : decode cX3_engine 0 = .ok (.iload_n 1, 1) := by decide +kernel
theorem dX3_engine_1 : decode cX3_engine 1 = .ok (.tableswitch 99 0 6 #[43, 51, 59, 67, 75, 83, 91], 43) := by decide +kernel
theorem dX3_engine_44 : decode cX3_engine 44 = .ok (.aload_n 0, 1) := by decide +kernel
theorem dX3_engine_45 : decode cX3_engine 45 = .ok (.getfield 19, 3) := by decide +kernel
theorem dX3_engine_48 : decode cX3_engine 48 = .ok (.getfield 150, 3) := by decide +kernel
theorem dX3_engine_51 : decode cX3_engine 51 = .ok (.ireturn, 1) := by decide +kernel
theorem dX3_engine_52 : decode cX3_engine 52 = .ok (.aload_n 0, 1) := by decide +kernel
theorem dX3_engine_53 : decode cX3_engine 53 = .ok (.getfield 19, 3) := by decide +kernel
theorem dX3_engine_56 : decode cX3_engine 56 = .ok (.getfield 153, 3) := by decide +kernel
theorem dX3_engine_59 : decode cX3_engine 59 = .ok (.ireturn, 1) := by decide +kernel
theorem dX3_engine_60 : decode cX3_engine 60 = .ok (.aload_n 0, 1) := by decide +kernel
theorem dX3_engine_61 : decode cX3_engine 61 = .ok (.getfield 19, 3) := by decide +kernel
theorem dX3_engine_64 : decode cX3_engine 64 = .ok (.getfield 156, 3) := by decide +kernel
theorem dX3_engine_67 : decode cX3_engine 67 = .ok (.ireturn, 1) := by decide +kernel
theorem dX3_engine_68 : decode cX3_engine 68 = .ok (.aload_n 0, 1) := by decide +kernel
theorem dX3_engine_69 : decode cX3_engine 69 = .ok (.getfield 19, 3) := by decide +kernel
theorem dX3_engine_72 : decode cX3_engine 72 = .ok (.getfield 159, 3) := by decide +kernel
theorem dX3_engine_75 : decode cX3_engine 75 = .ok (.ireturn, 1) := by decide +kernel
theorem dX3_engine_76 : decode cX3_engine 76 = .ok (.aload_n 0, 1) := by decide +kernel
theorem dX3_engine_77 : decode cX3_engine 77 = .ok (.getfield 19, 3) := by decide +kernel
theorem dX3_engine_80 : decode cX3_engine 80 = .ok (.getfield 162, 3) := by decide +kernel
theorem dX3_engine_83 : decode cX3_engine 83 = .ok (.ireturn, 1) := by decide +kernel
theorem dX3_engine_84 : decode cX3_engine 84 = .ok (.aload_n 0, 1) := by decide +kernel
theorem dX3_engine_85 : decode cX3_engine 85 = .ok (.getfield 26, 3) := by decide +kernel
theorem dX3_engine_88 : decode cX3_engine 88 = .ok (.getfield 165, 3) := by decide +kernel
theorem dX3_engine_91 : decode cX3_engine 91 = .ok (.ireturn, 1) := by decide +kernel
theorem dX3_engine_92 : decode cX3_engine 92 = .ok (.aload_n 0, 1) := by decide +kernel
theorem dX3_engine_93 : decode cX3_engine 93 = .ok (.getfield 26, 3) := by decide +kernel
theorem dX3_engine_96 : decode cX3_engine 96 = .ok (.getfield 166, 3) := by decide +kernel
theorem dX3_engine_99 : decode cX3_engine 99 = .ok (.ireturn, 1) := by decide +kernel
theorem dX3_engine_100 : decode cX3_engine 100 = .ok (.new 34, 3) := by decide +kernel
theorem dX3_engine_103 : decode cX3_engine 103 = .ok (.dup, 1) := by decide +kernel
theorem dX3_engine_104 : decode cX3_engine 104 = .ok (.ldc 169, 2) := by decide +kernel
theorem dX3_engine_106 : decode cX3_engine 106 = .ok (.invokespecial 38, 3) := by decide +kernel
theorem dX3_engine_109 : decode cX3_engine 109 = .ok (.athrow, 1) := by decide +kernel
theorem dX3_checkContext_0 : decode cX3_checkContext 0 = .ok (.iload_n 0, 1) := by decide +kernel
theorem dX3_checkContext_1 : decode cX3_checkContext 1 = .ok (.ifCond .lt 9, 3) := by decide +kernel
theorem dX3_checkContext_4 : decode cX3_checkContext 4 = .ok (.iload_n 0, 1) := by decide +kernel
theorem dX3_checkContext_5 : decode cX3_checkContext 5 = .ok (.bipush 32, 2) := by decide +kernel
theorem dX3_checkContext_7 : decode cX3_checkContext 7 = .ok (.if_icmp .lt 13, 3) := by decide +kernel
theorem dX3_checkContext_10 : decode cX3_checkContext 10 = .ok (.new 171, 3) := by decide +kernel
theorem dX3_checkContext_13 : decode cX3_checkContext 13 = .ok (.dup, 1) := by decide +kernel
theorem dX3_checkContext_14 : decode cX3_checkContext 14 = .ok (.ldc 173, 2) := by decide +kernel
theorem dX3_checkContext_16 : decode cX3_checkContext 16 = .ok (.invokespecial 175, 3) := by decide +kernel
theorem dX3_checkContext_19 : decode cX3_checkContext 19 = .ok (.athrow, 1) := by decide +kernel
theorem dX3_checkContext_20 : decode cX3_checkContext 20 = .ok (.return_, 1) := by decide +kernel
theorem dX3_checkFirstContext_0 : decode cX3_checkFirstContext 0 = .ok (.iload_n 0, 1) := by decide +kernel
theorem dX3_checkFirstContext_1 : decode cX3_checkFirstContext 1 = .ok (.ifCond .lt 9, 3) := by decide +kernel
theorem dX3_checkFirstContext_4 : decode cX3_checkFirstContext 4 = .ok (.iload_n 0, 1) := by decide +kernel
theorem dX3_checkFirstContext_5 : decode cX3_checkFirstContext 5 = .ok (.bipush 29, 2) := by decide +kernel
theorem dX3_checkFirstContext_7 : decode cX3_checkFirstContext 7 = .ok (.if_icmp .lt 13, 3) := by decide +kernel
theorem dX3_checkFirstContext_10 : decode cX3_checkFirstContext 10 = .ok (.new 171, 3) := by decide +kernel
theorem dX3_checkFirstContext_13 : decode cX3_checkFirstContext 13 = .ok (.dup, 1) := by decide +kernel
theorem dX3_checkFirstContext_14 : decode cX3_checkFirstContext 14 = .ok (.ldc 176, 2) := by decide +kernel
theorem dX3_checkFirstContext_16 : decode cX3_checkFirstContext 16 = .ok (.invokespecial 175, 3) := by decide +kernel
theorem dX3_checkFirstContext_19 : decode cX3_checkFirstContext 19 = .ok (.athrow, 1) := by decide +kernel
theorem dX3_checkFirstContext_20 : decode cX3_checkFirstContext 20 = .ok (.return_, 1) := by decide +kernel
theorem dX3_checkBin_0 : decode cX3_checkBin 0 = .ok (.iload_n 0, 1) := by decide +kernel
theorem dX3_checkBin_1 : decode cX3_checkBin 1 = .ok (.ifCond .eq 18, 3) := by decide +kernel
theorem dX3_checkBin_4 : decode cX3_checkBin 4 = .ok (.iload_n 0, 1) := by decide +kernel
theorem dX3_checkBin_5 : decode cX3_checkBin 5 = .ok (.iconst 1, 1) := by decide +kernel
theorem dX3_checkBin_6 : decode cX3_checkBin 6 = .ok (.if_icmp .eq 13, 3) := by decide +kernel
theorem dX3_checkBin_9 : decode cX3_checkBin 9 = .ok (.new 34, 3) := by decide +kernel
theorem dX3_checkBin_12 : decode cX3_checkBin 12 = .ok (.dup, 1) := by decide +kernel
theorem dX3_checkBin_13 : decode cX3_checkBin 13 = .ok (.ldc 178, 2) := by decide +kernel
theorem dX3_checkBin_15 : decode cX3_checkBin 15 = .ok (.invokespecial 38, 3) := by decide +kernel
theorem dX3_checkBin_18 : decode cX3_checkBin 18 = .ok (.athrow, 1) := by decide +kernel
theorem dX3_checkBin_19 : decode cX3_checkBin 19 = .ok (.return_, 1) := by decide +kernel
theorem dX3_checkOrder_0 : decode cX3_checkOrder 0 = .ok (.iload_n 0, 1) := by decide +kernel
theorem dX3_checkOrder_1 : decode cX3_checkOrder 1 = .ok (.ifCond .lt 8, 3) := by decide +kernel
theorem dX3_checkOrder_4 : decode cX3_checkOrder 4 = .ok (.iload_n 0, 1) := by decide +kernel
theorem dX3_checkOrder_5 : decode cX3_checkOrder 5 = .ok (.iconst 4, 1) := by decide +kernel
theorem dX3_checkOrder_6 : decode cX3_checkOrder 6 = .ok (.if_icmp .le 13, 3) := by decide +kernel
theorem dX3_checkOrder_9 : decode cX3_checkOrder 9 = .ok (.new 34, 3) := by decide +kernel
theorem dX3_checkOrder_12 : decode cX3_checkOrder 12 = .ok (.dup, 1) := by decide +kernel
theorem dX3_checkOrder_13 : decode cX3_checkOrder 13 = .ok (.ldc 180, 2) := by decide +kernel
theorem dX3_checkOrder_15 : decode cX3_checkOrder 15 = .ok (.invokespecial 38, 3) := by decide +kernel
theorem dX3_checkOrder_18 : decode cX3_checkOrder 18 = .ok (.athrow, 1) := by decide +kernel
theorem dX3_checkOrder_19 : decode cX3_checkOrder 19 = .ok (.return_, 1) := by decide +kernel
theorem dX3_checkNumber_0 : decode cX3_checkNumber 0 = .ok (.iload_n 0, 1) := by decide +kernel
