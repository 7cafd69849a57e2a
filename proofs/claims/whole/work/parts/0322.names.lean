set_option maxRecDepth 20000 in
theorem ggX3_start_X2_clear : GoodIn wsX3_start wsX2_clear := goodIn_ca (goodIn_r _ [32, 33, 34, 101, 102] (by decide +kernel) (by decide +kernel)) (goodIn_sub (fun _ h => List.mem_cons_of_mem _ (List.mem_append_right _ h)) (by decide +kernel))
set_option maxRecDepth 20000 in
theorem gX3_start_X2_clear : GoodIn wsX3_start (wsV RX3 117 RX2 yX2_clear wsX2_clear) := goodIn_app (goodIn_of _ (by decide +kernel)) ggX3_start_X2_clear
set_option maxRecDepth 20000 in
theorem ggX3_start_X1_beginAll : GoodIn wsX3_start wsX1_beginAll := goodIn_ca (goodIn_r _ [39, 40, 41, 42, 43, 44, 38, 45, 46, 47, 48, 49, 50, 51, 52, 53, 54, 55, 56, 57, 58, 59, 60, 61, 62, 63, 103, 104, 105, 106, 107, 108] (by decide +kernel) (by decide +kernel)) (goodIn_sub (fun _ h => List.mem_cons_of_mem _ (List.mem_append_right _ h)) (by decide +kernel))
set_option maxRecDepth 20000 in
theorem gX3_start_X1_beginAll : GoodIn wsX3_start (wsV RX3 120 RX1 yX1_beginAll wsX1_beginAll) := goodIn_app (goodIn_of _ (by decide +kernel)) ggX3_start_X1_beginAll
set_option maxRecDepth 20000 in
theorem ggX3_start_X3_run : GoodIn wsX3_start wsX3_run := goodIn_r _ [68, 1, 69, 70, 71, 67, 72, 8, 3, 73, 10, 74, 75, 76, 77, 31, 78, 34, 83, 84, 85, 86, 87, 88, 89, 90, 91, 92, 93, 94, 95, 96, 101, 102] (by decide +kernel) (by decide +kernel)
set_option maxRecDepth 20000 in
theorem gX3_start_X3_run : GoodIn wsX3_start (wsV RX3 58 RX3 yX3_run wsX3_run) := goodIn_app (goodIn_of _ (by decide +kernel)) ggX3_start_X3_run
set_option maxRecDepth 20000 in
theorem ggX3_start_X3_enter : GoodIn wsX3_start wsX3_enter := goodIn_r _ [82, 1, 74, 83, 84, 85, 86, 87, 88, 89, 90, 91, 92, 93, 94, 95, 96] (by decide +kernel) (by decide +kernel)
set_option maxRecDepth 20000 in
theorem gX3_start_X3_enter : GoodIn wsX3_start (wsV RX3 92 RX3 yX3_enter wsX3_enter) := goodIn_app (goodIn_of _ (by decide +kernel)) ggX3_start_X3_enter
theorem dX3_start_0 : decode cX3_start 0 = .ok (.aload_n 0, 1) := by decide +kernel
theorem dX3_start_1 : decode cX3_start 1 = .ok (.getfield 30, 3) := by decide +kernel
theorem dX3_start_4 : decode cX3_start 4 = .ok (.ifCond .eq 6, 3) := by decide +kernel
theorem dX3_start_7 : decode cX3_start 7 = .ok (.bipush (-3), 2) := by decide +kernel
theorem dX3_start_9 : decode cX3_start 9 = .ok (.ireturn, 1) := by decide +kernel
theorem dX3_start_10 : decode cX3_start 10 = .ok (.aload_n 0, 1) := by decide +kernel
theorem dX3_start_11 : decode cX3_start 11 = .ok (.dup, 1) := by decide +kernel
theorem dX3_start_12 : decode cX3_start 12 = .ok (.getfield 99, 3) := by decide +kernel
theorem dX3_start_15 : decode cX3_start 15 = .ok (.lconst 1, 1) := by decide +kernel
theorem dX3_start_16 : decode cX3_start 16 = .ok (.ladd, 1) := by decide +kernel
theorem dX3_start_17 : decode cX3_start 17 = .ok (.putfield 99, 3) := by decide +kernel
theorem dX3_start_20 : decode cX3_start 20 = .ok (.aload_n 0, 1) := by decide +kernel
theorem dX3_start_21 : decode cX3_start 21 = .ok (.aload_n 0, 1) := by decide +kernel
theorem dX3_start_22 : decode cX3_start 22 = .ok (.getfield 102, 3) := by decide +kernel
theorem dX3_start_25 : decode cX3_start 25 = .ok (.putfield 105, 3) := by decide +kernel
theorem dX3_start_28 : decode cX3_start 28 = .ok (.aload_n 0, 1) := by decide +kernel
theorem dX3_start_29 : decode cX3_start 29 = .ok (.aload_n 0, 1) := by decide +kernel
theorem dX3_start_30 : decode cX3_start 30 = .ok (.getfield 108, 3) := by decide +kernel
theorem dX3_start_33 : decode cX3_start 33 = .ok (.putfield 111, 3) := by decide +kernel
theorem dX3_start_36 : decode cX3_start 36 = .ok (.aload_n 0, 1) := by decide +kernel
theorem dX3_start_37 : decode cX3_start 37 = .ok (.getfield 19, 3) := by decide +kernel
theorem dX3_start_40 : decode cX3_start 40 = .ok (.invokevirtual 114, 3) := by decide +kernel
theorem dX3_start_43 : decode cX3_start 43 = .ok (.aload_n 0, 1) := by decide +kernel
theorem dX3_start_44 : decode cX3_start 44 = .ok (.getfield 10, 3) := by decide +kernel
theorem dX3_start_47 : decode cX3_start 47 = .ok (.invokevirtual 117, 3) := by decide +kernel
theorem dX3_start_50 : decode cX3_start 50 = .ok (.aload_n 0, 1) := by decide +kernel
theorem dX3_start_51 : decode cX3_start 51 = .ok (.getfield 26, 3) := by decide +kernel
theorem dX3_start_54 : decode cX3_start 54 = .ok (.invokevirtual 120, 3) := by decide +kernel
theorem dX3_start_57 : decode cX3_start 57 = .ok (.ifCond .eq 10, 3) := by decide +kernel
theorem dX3_start_60 : decode cX3_start 60 = .ok (.aload_n 0, 1) := by decide +kernel
theorem dX3_start_61 : decode cX3_start 61 = .ok (.invokevirtual 58, 3) := by decide +kernel
theorem dX3_start_64 : decode cX3_start 64 = .ok (.goto 11, 3) := by decide +kernel
theorem dX3_start_67 : decode cX3_start 67 = .ok (.aload_n 0, 1) := by decide +kernel
theorem dX3_start_68 : decode cX3_start 68 = .ok (.iconst 5, 1) := by decide +kernel
theorem dX3_start_69 : decode cX3_start 69 = .ok (.ldc2_w 34, 3) := by decide +kernel
theorem dX3_start_72 : decode cX3_start 72 = .ok (.invokevirtual 92, 3) := by decide +kernel
theorem dX3_start_75 : decode cX3_start 75 = .ok (.aload_n 0, 1) := by decide +kernel
theorem dX3_start_76 : decode cX3_start 76 = .ok (.getfield 30, 3) := by decide +kernel
theorem dX3_start_79 : decode cX3_start 79 = .ok (.ireturn, 1) := by decide +kernel
set_option maxRecDepth 20000 in
theorem ggX3_kept_X0_has : GoodIn wsX3_kept wsX0_has := goodIn_r _ [8] (by decide +kernel) (by decide +kernel)
set_option maxRecDepth 20000 in
theorem gX3_kept_X0_has : GoodIn wsX3_kept (va_wsS RX3 78 yX0_has wsX0_has) := goodIn_app (goodIn_of _ (by decide +kernel)) ggX3_kept_X0_has
set_option maxRecDepth 20000 in
theorem ggX3_kept_X0_hasOctet : GoodIn wsX3_kept wsX0_hasOctet := goodIn_r _ [11] (by decide +kernel) (by decide +kernel)
set_option maxRecDepth 20000 in
theorem gX3_kept_X0_hasOctet : GoodIn wsX3_kept (va_wsS RX3 82 yX0_hasOctet wsX0_hasOctet) := goodIn_app (goodIn_of _ (by decide +kernel)) ggX3_kept_X0_hasOctet
set_option maxRecDepth 20000 in
theorem ggX3_kept_X0_keptOctet : GoodIn wsX3_kept wsX0_keptOctet := goodIn_ca (goodIn_r _ [15, 16, 17, 6, 7, 8, 18, 10, 11, 19, 20, 21, 22, 23, 44, 45, 46, 47] (by decide +kernel) (by decide +kernel)) (goodIn_sub (fun _ h => List.mem_cons_of_mem _ (List.mem_append_right _ h)) (by decide +kernel))
set_option maxRecDepth 20000 in
theorem gX3_kept_X0_keptOctet : GoodIn wsX3_kept (wsV RX3 131 RX0 yX0_keptOctet wsX0_keptOctet) := goodIn_app (goodIn_of _ (by decide +kernel)) ggX3_kept_X0_keptOctet
theorem dX3_kept_0 : decode cX3_kept 0 = .ok (.iload_n 1, 1) := by decide +kernel
theorem dX3_kept_1 : decode cX3_kept 1 = .ok (.invokestatic 78, 3) := by decide +kernel
theorem dX3_kept_4 : decode cX3_kept 4 = .ok (.ifCond .eq 10, 3) := by decide +kernel
theorem dX3_kept_7 : decode cX3_kept 7 = .ok (.iload_n 2, 1) := by decide +kernel
theorem dX3_kept_8 : decode cX3_kept 8 = .ok (.invokestatic 82, 3) := by decide +kernel
theorem dX3_kept_11 : decode cX3_kept 11 = .ok (.ifCond .ne 13, 3) := by decide +kernel
theorem dX3_kept_14 : decode cX3_kept 14 = .ok (.new 124, 3) := by decide +kernel
theorem dX3_kept_17 : decode cX3_kept 17 = .ok (.dup, 1) := by decide +kernel
theorem dX3_kept_18 : decode cX3_kept 18 = .ok (.ldc 126, 2) := by decide +kernel
theorem dX3_kept_20 : decode cX3_kept 20 = .ok (.invokespecial 128, 3) := by decide +kernel
theorem dX3_kept_23 : decode cX3_kept 23 = .ok (.athrow, 1) := by decide +kernel
theorem dX3_kept_24 : decode cX3_kept 24 = .ok (.aload_n 0, 1) := by decide +kernel
theorem dX3_kept_25 : decode cX3_kept 25 = .ok (.getfield 19, 3) := by decide +kernel
theorem dX3_kept_28 : decode cX3_kept 28 = .ok (.iload_n 1, 1) := by decide +kernel
theorem dX3_kept_29 : decode cX3_kept 29 = .ok (.iload_n 2, 1) := by decide +kernel
theorem dX3_kept_30 : decode cX3_kept 30 = .ok (.invokevirtual 131, 3) := by decide +kernel
theorem dX3_kept_33 : decode cX3_kept 33 = .ok (.ireturn, 1) := by decide +kernel
theorem dX3_bank_0 : decode cX3_bank 0 = .ok (.iload_n 1, 1) := by decide +kernel
theorem dX3_bank_1 : decode cX3_bank 1 = .ok (.ifCond .ne 13, 3) := by decide +kernel
theorem dX3_bank_4 : decode cX3_bank 4 = .ok (.aload_n 0, 1) := by decide +kernel
theorem dX3_bank_5 : decode cX3_bank 5 = .ok (.iconst 1, 1) := by decide +kernel
theorem dX3_bank_6 : decode cX3_bank 6 = .ok (.aload_n 0, 1) := by decide +kernel
theorem dX3_bank_7 : decode cX3_bank 7 = .ok (.getfield 108, 3) := by decide +kernel
theorem dX3_bank_10 : decode cX3_bank 10 = .ok (.isub, 1) := by decide +kernel
theorem dX3_bank_11 : decode cX3_bank 11 = .ok (.putfield 108, 3) := by decide +kernel
theorem dX3_bank_14 : decode cX3_bank 14 = .ok (.aload_n 0, 1) := by decide +kernel
theorem dX3_bank_15 : decode cX3_bank 15 = .ok (.getfield 108, 3) := by decide +kernel
theorem dX3_bank_18 : decode cX3_bank 18 = .ok (.ireturn, 1) := by decide +kernel
theorem dX3_time_0 : decode cX3_time 0 = .ok (.iload_n 1, 1) := by decide +kernel
theorem dX3_time_1 : decode cX3_time 1 = .ok (.tableswitch 79 0 6 #[43, 48, 53, 58, 63, 68, 73], 43) := by decide +kernel
theorem dX3_time_44 : decode cX3_time 44 = .ok (.aload_n 0, 1) := by decide +kernel
theorem dX3_time_45 : decode cX3_time 45 = .ok (.getfield 102, 3) := by decide +kernel
theorem dX3_time_48 : decode cX3_time 48 = .ok (.lreturn, 1) := by decide +kernel
theorem dX3_time_49 : decode cX3_time 49 = .ok (.aload_n 0, 1) := by decide +kernel
theorem dX3_time_50 : decode cX3_time 50 = .ok (.getfield 99, 3) := by decide +kernel
theorem dX3_time_53 : decode cX3_time 53 = .ok (.lreturn, 1) := by decide +kernel
theorem dX3_time_54 : decode cX3_time 54 = .ok (.aload_n 0, 1) := by decide +kernel
theorem dX3_time_55 : decode cX3_time 55 = .ok (.getfield 135, 3) := by decide +kernel
theorem dX3_time_58 : decode cX3_time 58 = .ok (.lreturn, 1) := by decide +kernel
theorem dX3_time_59 : decode cX3_time 59 = .ok (.aload_n 0, 1) := by decide +kernel
theorem dX3_time_60 : decode cX3_time 60 = .ok (.getfield 138, 3) := by decide +kernel
theorem dX3_time_63 : decode cX3_time 63 = .ok (.lreturn, 1) := by decide +kernel
theorem dX3_time_64 : decode cX3_time 64 = .ok (.aload_n 0, 1) := by decide +kernel
theorem dX3_time_65 : decode cX3_time 65 = .ok (.getfield 89, 3) := by decide +kernel
theorem dX3_time_68 : decode cX3_time 68 = .ok (.lreturn, 1) := by decide +kernel
theorem dX3_time_69 : decode cX3_time 69 = .ok (.aload_n 0, 1) := by decide +kernel
theorem dX3_time_70 : decode cX3_time 70 = .ok (.getfield 105, 3) := by decide +kernel
theorem dX3_time_73 : decode cX3_time 73 = .ok (.lreturn, 1) := by decide +kernel
theorem dX3_time_74 : decode cX3_time 74 = .ok (.aload_n 0, 1) := by decide +kernel
theorem dX3_time_75 : decode cX3_time 75 = .ok (.getfield 111, 3) := by decide +kernel
theorem dX3_time_78 : decode cX3_time 78 = .ok (.i2l, 1) := by decide +kernel
theorem dX3_time_79 : decode cX3_time 79 = .ok (.lreturn, 1) := by decide +kernel
theorem dX3_time_80 : decode cX3_time 80 = .ok (.ldc2_w 141, 3) := by decide +kernel
theorem dX3_time_83 : decode cX3_time 83 = .ok (.lreturn, 1) := by decide +kernel
set_option maxRecDepth 20000 in
theorem ggX3_order_X1_thing : GoodIn wsX3_order wsX1_thing := goodIn_ca (goodIn_r _ [6, 7, 8, 23, 24, 25, 26, 27, 28] (by decide +kernel) (by decide +kernel)) (goodIn_sub (fun _ h => List.mem_cons_of_mem _ (List.mem_append_right _ h)) (by decide +kernel))
set_option maxRecDepth 20000 in
theorem gX3_order_X1_thing : GoodIn wsX3_order (wsV RX3 143 RX1 yX1_thing wsX1_thing) := goodIn_app (goodIn_of _ (by decide +kernel)) ggX3_order_X1_thing
theorem dX3_order_0 : decode cX3_order 0 = .ok (.aload_n 0, 1) := by decide +kernel
theorem dX3_order_1 : decode cX3_order 1 = .ok (.getfield 26, 3) := by decide +kernel
theorem dX3_order_4 : decode cX3_order 4 = .ok (.iload_n 1, 1) := by decide +kernel
theorem dX3_order_5 : decode cX3_order 5 = .ok (.invokevirtual 143, 3) := by decide +kernel
theorem dX3_order_8 : decode cX3_order 8 = .ok (.ireturn, 1) := by decide +kernel
theorem dX3_canAdvance_0 : decode cX3_canAdvance 0 = .ok (.lload_n 1, 1) := by decide +kernel
theorem dX3_canAdvance_1 : decode cX3_canAdvance 1 = .ok (.aload_n 0, 1) := by decide +kernel
theorem dX3_canAdvance_2 : decode cX3_canAdvance 2 = .ok (.getfield 102, 3) := by decide +kernel
theorem dX3_canAdvance_5 : decode cX3_canAdvance 5 = .ok (.lcmp, 1) := by decide +kernel
theorem dX3_canAdvance_6 : decode cX3_canAdvance 6 = .ok (.ifCond .lt 20, 3) := by decide +kernel
theorem dX3_canAdvance_9 : decode cX3_canAdvance 9 = .ok (.lload_n 1, 1) := by decide +kernel
theorem dX3_canAdvance_10 : decode cX3_canAdvance 10 = .ok (.aload_n 0, 1) := by decide +kernel
theorem dX3_canAdvance_11 : decode cX3_canAdvance 11 = .ok (.getfield 102, 3) := by decide +kernel
theorem dX3_canAdvance_14 : decode cX3_canAdvance 14 = .ok (.lsub, 1) := by decide +kernel
theorem dX3_canAdvance_15 : decode cX3_canAdvance 15 = .ok (.ldc2_w 147, 3) := by decide +kernel
theorem dX3_canAdvance_18 : decode cX3_canAdvance 18 = .ok (.lcmp, 1) := by decide +kernel
theorem dX3_canAdvance_19 : decode cX3_canAdvance 19 = .ok (.ifCond .gt 7, 3) := by decide +kernel
theorem dX3_canAdvance_22 : decode cX3_canAdvance 22 = .ok (.iconst 1, 1) := by decide +kernel
theorem dX3_canAdvance_23 : decode cX3_canAdvance 23 = .ok (.goto 4, 3) := by decide +kernel
theorem dX3_canAdvance_26 : decode cX3_canAdvance 26 = .ok (.iconst 0, 1) := by decide +kernel
theorem dX3_canAdvance_27 : decode cX3_canAdvance 27 = .ok (.ireturn, 1) := by decide +kernel
set_option maxRecDepth 20000 in
theorem ggX3_advance_X3_happen : GoodIn wsX3_advance wsX3_happen := goodIn_ca (goodIn_r _ [8, 9, 10, 11, 12, 7, 13, 14, 15, 3, 16, 17, 18, 19, 20, 21, 22, 23, 24, 25, 26, 27, 2, 28, 29, 30, 31, 1, 32, 33, 34, 35, 36, 37, 38, 39, 40, 41, 42, 43, 44, 45, 46, 47, 48, 49, 50, 51, 52, 53, 54, 55, 56, 57, 58, 59, 60, 61, 62, 63, 64, 65, 66, 67, 68, 69, 70, 71, 72, 73, 74, 75, 76, 77, 78, 79, 80, 81, 82, 83, 84, 85, 86, 87, 88, 89, 90, 91, 92, 93] (by decide +kernel) (by decide +kernel)) (goodIn_sub (fun _ h => List.mem_cons_of_mem _ (List.mem_append_right _ h)) (by decide +kernel))
set_option maxRecDepth 20000 in
theorem gX3_advance_X3_happen : GoodIn wsX3_advance (wsV RX3 149 RX3 yX3_happen wsX3_happen) := goodIn_app (goodIn_of _ (by decide +kernel)) ggX3_advance_X3_happen
theorem dX3_advance_0 : decode cX3_advance 0 = .ok (.iconst 0, 1) := by decide +kernel
theorem dX3_advance_1 : decode cX3_advance 1 = .ok (.istore_n 3, 1) := by decide +kernel
theorem dX3_advance_2 : decode cX3_advance 2 = .ok (.iload_n 3, 1) := by decide +kernel
theorem dX3_advance_3 : decode cX3_advance 3 = .ok (.sipush 1000, 3) := by decide +kernel
theorem dX3_advance_6 : decode cX3_advance 6 = .ok (.if_icmp .ge 41, 3) := by decide +kernel
theorem dX3_advance_9 : decode cX3_advance 9 = .ok (.aload_n 0, 1) := by decide +kernel
theorem dX3_advance_10 : decode cX3_advance 10 = .ok (.getfield 36, 3) := by decide +kernel
theorem dX3_advance_13 : decode cX3_advance 13 = .ok (.ldc2_w 34, 3) := by decide +kernel
theorem dX3_advance_16 : decode cX3_advance 16 = .ok (.lcmp, 1) := by decide +kernel
theorem dX3_advance_17 : decode cX3_advance 17 = .ok (.ifCond .eq 30, 3) := by decide +kernel
theorem dX3_advance_20 : decode cX3_advance 20 = .ok (.aload_n 0, 1) := by decide +kernel
theorem dX3_advance_21 : decode cX3_advance 21 = .ok (.getfield 36, 3) := by decide +kernel
theorem dX3_advance_24 : decode cX3_advance 24 = .ok (.lload_n 1, 1) := by decide +kernel
theorem dX3_advance_25 : decode cX3_advance 25 = .ok (.lcmp, 1) := by decide +kernel
theorem dX3_advance_26 : decode cX3_advance 26 = .ok (.ifCond .gt 21, 3) := by decide +kernel
theorem dX3_advance_29 : decode cX3_advance 29 = .ok (.aload_n 0, 1) := by decide +kernel
theorem dX3_advance_30 : decode cX3_advance 30 = .ok (.aload_n 0, 1) := by decide +kernel
theorem dX3_advance_31 : decode cX3_advance 31 = .ok (.getfield 36, 3) := by decide +kernel
theorem dX3_advance_34 : decode cX3_advance 34 = .ok (.putfield 102, 3) := by decide +kernel
theorem dX3_advance_37 : decode cX3_advance 37 = .ok (.aload_n 0, 1) := by decide +kernel
theorem dX3_advance_38 : decode cX3_advance 38 = .ok (.invokevirtual 149, 3) := by decide +kernel
theorem dX3_advance_41 : decode cX3_advance 41 = .ok (.iinc 3 1, 3) := by decide +kernel
theorem dX3_advance_44 : decode cX3_advance 44 = .ok (.goto (-42), 3) := by decide +kernel
theorem dX3_advance_47 : decode cX3_advance 47 = .ok (.aload_n 0, 1) := by decide +kernel
theorem dX3_advance_48 : decode cX3_advance 48 = .ok (.lload_n 1, 1) := by decide +kernel
theorem dX3_advance_49 : decode cX3_advance 49 = .ok (.putfield 102, 3) := by decide +kernel
theorem dX3_advance_52 : decode cX3_advance 52 = .ok (.return_, 1) := by decide +kernel
set_option maxRecDepth 20000 in
theorem ggX3_happen_X3_saveNextOrSleep : GoodIn wsX3_happen wsX3_saveNextOrSleep := goodIn_ca (goodIn_r _ [6, 7, 8, 9, 10, 11, 12, 13, 14, 15, 16, 17, 18, 19, 5, 20, 21, 22, 23, 24, 25, 26, 1, 27, 28, 29, 30, 31, 32, 33, 34, 35, 36, 37, 38, 39, 70, 71, 72, 73, 74, 75, 76, 77, 78, 79, 80, 81, 82, 83, 84, 85, 86, 87] (by decide +kernel) (by decide +kernel)) (goodIn_sub (fun _ h => List.mem_cons_of_mem _ (List.mem_append_right _ h)) (by decide +kernel))
set_option maxRecDepth 20000 in
theorem gX3_happen_X3_saveNextOrSleep : GoodIn wsX3_happen (wsV RX3 152 RX3 yX3_saveNextOrSleep wsX3_saveNextOrSleep) := goodIn_app (goodIn_of _ (by decide +kernel)) ggX3_happen_X3_saveNextOrSleep
set_option maxRecDepth 20000 in
theorem ggX3_happen_X3_endSaving : GoodIn wsX3_happen wsX3_endSaving := goodIn_ca (goodIn_r _ [43, 7, 8, 44, 45, 46, 47, 14, 48, 49, 50, 51, 52, 53, 54, 32, 16, 33, 34, 35, 36, 37, 38, 39, 55, 56, 57, 58, 59, 60, 61, 62, 63, 5, 64, 1, 65, 66, 67, 68, 9, 69, 22, 27, 2, 3, 4, 6, 10, 11, 12, 13, 15, 17, 18, 19, 20, 21, 23, 24, 25, 26, 28, 29, 30, 31, 70, 71, 72, 73, 74, 75, 76, 77, 78, 79, 80, 81, 82, 83, 84, 85, 86, 87, 88, 89] (by decide +kernel) (by decide +kernel)) (goodIn_sub (fun _ h => List.mem_cons_of_mem _ (List.mem_append_right _ h)) (by decide +kernel))
set_option maxRecDepth 20000 in
theorem gX3_happen_X3_endSaving : GoodIn wsX3_happen (wsV RX3 155 RX3 yX3_endSaving wsX3_endSaving) := goodIn_app (goodIn_of _ (by decide +kernel)) ggX3_happen_X3_endSaving
set_option maxRecDepth 20000 in
theorem ggX3_happen_X3_sleep : GoodIn wsX3_happen wsX3_sleep := goodIn_r _ [20, 21, 22, 23, 24, 25, 5, 26, 1, 27, 70, 71, 72, 73, 74, 75, 76, 77, 78, 79, 80, 81, 82, 83] (by decide +kernel) (by decide +kernel)
set_option maxRecDepth 20000 in
theorem gX3_happen_X3_sleep : GoodIn wsX3_happen (wsV RX3 158 RX3 yX3_sleep wsX3_sleep) := goodIn_app (goodIn_of _ (by decide +kernel)) ggX3_happen_X3_sleep
theorem dX3_happen_0 : decode cX3_happen 0 = .ok (.aload_n 0, 1) := by decide +kernel
theorem dX3_happen_1 : decode cX3_happen 1 = .ok (.getfield 30, 3) := by decide +kernel
theorem dX3_happen_4 : decode cX3_happen 4 = .ok (.iconst 1, 1) := by decide +kernel
theorem dX3_happen_5 : decode cX3_happen 5 = .ok (.if_icmp .ne 10, 3) := by decide +kernel
theorem dX3_happen_8 : decode cX3_happen 8 = .ok (.aload_n 0, 1) := by decide +kernel
theorem dX3_happen_9 : decode cX3_happen 9 = .ok (.invokevirtual 152, 3) := by decide +kernel
theorem dX3_happen_12 : decode cX3_happen 12 = .ok (.goto 22, 3) := by decide +kernel
theorem dX3_happen_15 : decode cX3_happen 15 = .ok (.aload_n 0, 1) := by decide +kernel
theorem dX3_happen_16 : decode cX3_happen 16 = .ok (.getfield 30, 3) := by decide +kernel
theorem dX3_happen_19 : decode cX3_happen 19 = .ok (.iconst 2, 1) := by decide +kernel
theorem dX3_happen_20 : decode cX3_happen 20 = .ok (.if_icmp .ne 10, 3) := by decide +kernel
theorem dX3_happen_23 : decode cX3_happen 23 = .ok (.aload_n 0, 1) := by decide +kernel
theorem dX3_happen_24 : decode cX3_happen 24 = .ok (.invokevirtual 155, 3) := by decide +kernel
theorem dX3_happen_27 : decode cX3_happen 27 = .ok (.goto 7, 3) := by decide +kernel
theorem dX3_happen_30 : decode cX3_happen 30 = .ok (.aload_n 0, 1) := by decide +kernel
theorem dX3_happen_31 : decode cX3_happen 31 = .ok (.invokevirtual 158, 3) := by decide +kernel
theorem dX3_happen_34 : decode cX3_happen 34 = .ok (.return_, 1) := by decide +kernel
set_option maxRecDepth 20000 in
theorem ggX3_saveNextOrSleep_X0_firstChanged : GoodIn wsX3_saveNextOrSleep wsX0_firstChanged := goodIn_ca (goodIn_r _ [9, 10, 50, 51, 52, 53] (by decide +kernel) (by decide +kernel)) (goodIn_sub (fun _ h => List.mem_cons_of_mem _ (List.mem_append_right _ h)) (by decide +kernel))
set_option maxRecDepth 20000 in
theorem gX3_saveNextOrSleep_X0_firstChanged : GoodIn wsX3_saveNextOrSleep (wsV RX3 161 RX0 yX0_firstChanged wsX0_firstChanged) := goodIn_app (goodIn_of _ (by decide +kernel)) ggX3_saveNextOrSleep_X0_firstChanged
set_option maxRecDepth 20000 in
theorem ggX3_saveNextOrSleep_X3_sleep : GoodIn wsX3_saveNextOrSleep wsX3_sleep := goodIn_r _ [15, 16, 17, 18, 19, 20, 14, 21, 22, 23, 36, 37, 38, 39, 40, 41, 42, 43, 44, 45, 46, 47, 48, 49] (by decide +kernel) (by decide +kernel)
set_option maxRecDepth 20000 in
theorem gX3_saveNextOrSleep_X3_sleep : GoodIn wsX3_saveNextOrSleep (wsV RX3 158 RX3 yX3_sleep wsX3_sleep) := goodIn_app (goodIn_of _ (by decide +kernel)) ggX3_saveNextOrSleep_X3_sleep
set_option maxRecDepth 20000 in
theorem ggX3_saveNextOrSleep_X0_tear : GoodIn wsX3_saveNextOrSleep wsX0_tear := goodIn_ca (goodIn_r _ [27, 28, 29, 30, 8, 31, 32, 33, 34, 35, 50, 51, 52, 53] (by decide +kernel) (by decide +kernel)) (goodIn_sub (fun _ h => List.mem_cons_of_mem _ (List.mem_append_right _ h)) (by decide +kernel))
set_option maxRecDepth 20000 in
theorem gX3_saveNextOrSleep_X0_tear : GoodIn wsX3_saveNextOrSleep (wsV RX3 164 RX0 yX0_tear wsX0_tear) := goodIn_app (goodIn_of _ (by decide +kernel)) ggX3_saveNextOrSleep_X0_tear
set_option maxRecDepth 20000 in
theorem ggX3_saveNextOrSleep_X3_enter : GoodIn wsX3_saveNextOrSleep wsX3_enter := goodIn_r _ [21, 22, 23, 36, 37, 38, 39, 40, 41, 42, 43, 44, 45, 46, 47, 48, 49] (by decide +kernel) (by decide +kernel)
set_option maxRecDepth 20000 in
theorem gX3_saveNextOrSleep_X3_enter : GoodIn wsX3_saveNextOrSleep (wsV RX3 92 RX3 yX3_enter wsX3_enter) := goodIn_app (goodIn_of _ (by decide +kernel)) ggX3_saveNextOrSleep_X3_enter
theorem dX3_saveNextOrSleep_0 : decode cX3_saveNextOrSleep 0 = .ok (.aload_n 0, 1) := by decide +kernel
theorem dX3_saveNextOrSleep_1 : decode cX3_saveNextOrSleep 1 = .ok (.aload_n 0, 1) := by decide +kernel
theorem dX3_saveNextOrSleep_2 : decode cX3_saveNextOrSleep 2 = .ok (.getfield 19, 3) := by decide +kernel
theorem dX3_saveNextOrSleep_5 : decode cX3_saveNextOrSleep 5 = .ok (.invokevirtual 161, 3) := by decide +kernel
theorem dX3_saveNextOrSleep_8 : decode cX3_saveNextOrSleep 8 = .ok (.putfield 40, 3) := by decide +kernel
theorem dX3_saveNextOrSleep_11 : decode cX3_saveNextOrSleep 11 = .ok (.aload_n 0, 1) := by decide +kernel
theorem dX3_saveNextOrSleep_12 : decode cX3_saveNextOrSleep 12 = .ok (.getfield 40, 3) := by decide +kernel
theorem dX3_saveNextOrSleep_15 : decode cX3_saveNextOrSleep 15 = .ok (.iconst (-1), 1) := by decide +kernel
theorem dX3_saveNextOrSleep_16 : decode cX3_saveNextOrSleep 16 = .ok (.if_icmp .ne 10, 3) := by decide +kernel
theorem dX3_saveNextOrSleep_19 : decode cX3_saveNextOrSleep 19 = .ok (.aload_n 0, 1) := by decide +kernel
theorem dX3_saveNextOrSleep_20 : decode cX3_saveNextOrSleep 20 = .ok (.invokevirtual 158, 3) := by decide +kernel
theorem dX3_saveNextOrSleep_23 : decode cX3_saveNextOrSleep 23 = .ok (.goto 27, 3) := by decide +kernel
theorem dX3_saveNextOrSleep_26 : decode cX3_saveNextOrSleep 26 = .ok (.aload_n 0, 1) := by decide +kernel
theorem dX3_saveNextOrSleep_27 : decode cX3_saveNextOrSleep 27 = .ok (.getfield 19, 3) := by decide +kernel
theorem dX3_saveNextOrSleep_30 : decode cX3_saveNextOrSleep 30 = .ok (.aload_n 0, 1) := by decide +kernel
theorem dX3_saveNextOrSleep_31 : decode cX3_saveNextOrSleep 31 = .ok (.getfield 40, 3) := by decide +kernel
theorem dX3_saveNextOrSleep_34 : decode cX3_saveNextOrSleep 34 = .ok (.invokevirtual 164, 3) := by decide +kernel
theorem dX3_saveNextOrSleep_37 : decode cX3_saveNextOrSleep 37 = .ok (.aload_n 0, 1) := by decide +kernel
theorem dX3_saveNextOrSleep_38 : decode cX3_saveNextOrSleep 38 = .ok (.iconst 2, 1) := by decide +kernel
theorem dX3_saveNextOrSleep_39 : decode cX3_saveNextOrSleep 39 = .ok (.aload_n 0, 1) := by decide +kernel
theorem dX3_saveNextOrSleep_40 : decode cX3_saveNextOrSleep 40 = .ok (.getfield 102, 3) := by decide +kernel
theorem dX3_saveNextOrSleep_43 : decode cX3_saveNextOrSleep 43 = .ok (.ldc2_w 168, 3) := by decide +kernel
theorem dX3_saveNextOrSleep_46 : decode cX3_saveNextOrSleep 46 = .ok (.ladd, 1) := by decide +kernel
theorem dX3_saveNextOrSleep_47 : decode cX3_saveNextOrSleep 47 = .ok (.invokevirtual 92, 3) := by decide +kernel
theorem dX3_saveNextOrSleep_50 : decode cX3_saveNextOrSleep 50 = .ok (.return_, 1) := by decide +kernel
set_option maxRecDepth 20000 in
theorem ggX3_endSaving_X0_save : GoodIn wsX3_endSaving wsX0_save := goodIn_ca (goodIn_r _ [8, 9, 10, 11, 12, 13, 14, 15, 16, 17, 18, 7, 19, 20, 21, 22, 23, 80, 81, 82, 83] (by decide +kernel) (by decide +kernel)) (goodIn_sub (fun _ h => List.mem_cons_of_mem _ (List.mem_append_right _ h)) (by decide +kernel))
set_option maxRecDepth 20000 in
theorem gX3_endSaving_X0_save : GoodIn wsX3_endSaving (wsV RX3 170 RX0 yX0_save wsX0_save) := goodIn_app (goodIn_of _ (by decide +kernel)) ggX3_endSaving_X0_save
set_option maxRecDepth 20000 in
theorem ggX3_endSaving_X2_howMany : GoodIn wsX3_endSaving wsX2_howMany := goodIn_r _ [28, 29, 84, 85] (by decide +kernel) (by decide +kernel)
set_option maxRecDepth 20000 in
theorem gX3_endSaving_X2_howMany : GoodIn wsX3_endSaving (wsV RX3 43 RX2 yX2_howMany wsX2_howMany) := goodIn_app (goodIn_of _ (by decide +kernel)) ggX3_endSaving_X2_howMany
set_option maxRecDepth 20000 in
theorem ggX3_endSaving_X3_run : GoodIn wsX3_endSaving wsX3_run := goodIn_r _ [34, 35, 36, 37, 38, 33, 39, 3, 40, 41, 42, 43, 24, 25, 26, 27, 28, 29, 66, 67, 68, 69, 70, 71, 72, 73, 74, 75, 76, 77, 78, 79, 84, 85] (by decide +kernel) (by decide +kernel)
set_option maxRecDepth 20000 in
theorem gX3_endSaving_X3_run : GoodIn wsX3_endSaving (wsV RX3 58 RX3 yX3_run wsX3_run) := goodIn_app (goodIn_of _ (by decide +kernel)) ggX3_endSaving_X3_run
set_option maxRecDepth 20000 in
theorem ggX3_endSaving_X3_saveNextOrSleep : GoodIn wsX3_endSaving wsX3_saveNextOrSleep := goodIn_ca (goodIn_r _ [47, 1, 2, 40, 48, 49, 50, 51, 7, 52, 16, 53, 54, 55, 33, 56, 57, 42, 58, 59, 60, 61, 35, 43, 62, 63, 64, 65, 15, 17, 18, 19, 20, 21, 22, 23, 66, 67, 68, 69, 70, 71, 72, 73, 74, 75, 76, 77, 78, 79, 80, 81, 82, 83] (by decide +kernel) (by decide +kernel)) (goodIn_sub (fun _ h => List.mem_cons_of_mem _ (List.mem_append_right _ h)) (by decide +kernel))
set_option maxRecDepth 20000 in
theorem gX3_endSaving_X3_saveNextOrSleep : GoodIn wsX3_endSaving (wsV RX3 152 RX3 yX3_saveNextOrSleep wsX3_saveNextOrSleep) := goodIn_app (goodIn_of _ (by decide +kernel)) ggX3_endSaving_X3_saveNextOrSleep
theorem dX3_endSaving_0 : decode cX3_endSaving 0 = .ok (.aload_n 0, 1) := by decide +kernel
theorem dX3_endSaving_1 : decode cX3_endSaving 1 = .ok (.getfield 19, 3) := by decide +kernel
theorem dX3_endSaving_4 : decode cX3_endSaving 4 = .ok (.aload_n 0, 1) := by decide +kernel
theorem dX3_endSaving_5 : decode cX3_endSaving 5 = .ok (.getfield 40, 3) := by decide +kernel
theorem dX3_endSaving_8 : decode cX3_endSaving 8 = .ok (.invokevirtual 170, 3) := by decide +kernel
theorem dX3_endSaving_11 : decode cX3_endSaving 11 = .ok (.aload_n 0, 1) := by decide +kernel
theorem dX3_endSaving_12 : decode cX3_endSaving 12 = .ok (.iconst (-1), 1) := by decide +kernel
theorem dX3_endSaving_13 : decode cX3_endSaving 13 = .ok (.putfield 40, 3) := by decide +kernel
theorem dX3_endSaving_16 : decode cX3_endSaving 16 = .ok (.aload_n 0, 1) := by decide +kernel
theorem dX3_endSaving_17 : decode cX3_endSaving 17 = .ok (.getfield 10, 3) := by decide +kernel
theorem dX3_endSaving_20 : decode cX3_endSaving 20 = .ok (.invokevirtual 43, 3) := by decide +kernel
theorem dX3_endSaving_23 : decode cX3_endSaving 23 = .ok (.ifCond .le 10, 3) := by decide +kernel
theorem dX3_endSaving_26 : decode cX3_endSaving 26 = .ok (.aload_n 0, 1) := by decide +kernel
theorem dX3_endSaving_27 : decode cX3_endSaving 27 = .ok (.invokevirtual 58, 3) := by decide +kernel
theorem dX3_endSaving_30 : decode cX3_endSaving 30 = .ok (.goto 7, 3) := by decide +kernel
theorem dX3_endSaving_33 : decode cX3_endSaving 33 = .ok (.aload_n 0, 1) := by decide +kernel
theorem dX3_endSaving_34 : decode cX3_endSaving 34 = .ok (.invokevirtual 152, 3) := by decide +kernel
theorem dX3_endSaving_37 : decode cX3_endSaving 37 = .ok (.return_, 1) := by decide +kernel
set_option maxRecDepth 20000 in
theorem ggX3_run_X3_awaitIdleness : GoodIn wsX3_run wsX3_awaitIdleness := goodIn_r _ [6, 7, 8, 9, 10, 11, 12, 13, 14, 15, 16, 17, 18, 19, 20, 21, 22, 23, 24, 25, 26, 27, 28, 29, 30, 31, 32, 33] (by decide +kernel) (by decide +kernel)
set_option maxRecDepth 20000 in
theorem gX3_run_X3_awaitIdleness : GoodIn wsX3_run (wsV RX3 55 RX3 yX3_awaitIdleness wsX3_awaitIdleness) := goodIn_app (goodIn_of _ (by decide +kernel)) ggX3_run_X3_awaitIdleness
theorem dX3_run_0 : decode cX3_run 0 = .ok (.aload_n 0, 1) := by decide +kernel
theorem dX3_run_1 : decode cX3_run 1 = .ok (.iconst 1, 1) := by decide +kernel
theorem dX3_run_2 : decode cX3_run 2 = .ok (.putfield 30, 3) := by decide +kernel
theorem dX3_run_5 : decode cX3_run 5 = .ok (.aload_n 0, 1) := by decide +kernel
theorem dX3_run_6 : decode cX3_run 6 = .ok (.invokevirtual 55, 3) := by decide +kernel
theorem dX3_run_9 : decode cX3_run 9 = .ok (.return_, 1) := by decide +kernel
set_option maxRecDepth 20000 in
theorem ggX3_awaitIdleness_X2_howMany : GoodIn wsX3_awaitIdleness wsX2_howMany := goodIn_r _ [10, 11, 26, 27] (by decide +kernel) (by decide +kernel)
set_option maxRecDepth 20000 in
theorem gX3_awaitIdleness_X2_howMany : GoodIn wsX3_awaitIdleness (wsV RX3 43 RX2 yX2_howMany wsX2_howMany) := goodIn_app (goodIn_of _ (by decide +kernel)) ggX3_awaitIdleness_X2_howMany
theorem dX3_awaitIdleness_0 : decode cX3_awaitIdleness 0 = .ok (.aload_n 0, 1) := by decide +kernel
theorem dX3_awaitIdleness_1 : decode cX3_awaitIdleness 1 = .ok (.aload_n 0, 1) := by decide +kernel
theorem dX3_awaitIdleness_2 : decode cX3_awaitIdleness 2 = .ok (.getfield 10, 3) := by decide +kernel
theorem dX3_awaitIdleness_5 : decode cX3_awaitIdleness 5 = .ok (.invokevirtual 43, 3) := by decide +kernel
theorem dX3_awaitIdleness_8 : decode cX3_awaitIdleness 8 = .ok (.ifCond .ne 14, 3) := by decide +kernel
theorem dX3_awaitIdleness_11 : decode cX3_awaitIdleness 11 = .ok (.aload_n 0, 1) := by decide +kernel
theorem dX3_awaitIdleness_12 : decode cX3_awaitIdleness 12 = .ok (.getfield 102, 3) := by decide +kernel
theorem dX3_awaitIdleness_15 : decode cX3_awaitIdleness 15 = .ok (.ldc2_w 173, 3) := by decide +kernel
theorem dX3_awaitIdleness_18 : decode cX3_awaitIdleness 18 = .ok (.ladd, 1) := by decide +kernel
theorem dX3_awaitIdleness_19 : decode cX3_awaitIdleness 19 = .ok (.goto 6, 3) := by decide +kernel
theorem dX3_awaitIdleness_22 : decode cX3_awaitIdleness 22 = .ok (.ldc2_w 34, 3) := by decide +kernel
theorem dX3_awaitIdleness_25 : decode cX3_awaitIdleness 25 = .ok (.putfield 36, 3) := by decide +kernel
theorem dX3_awaitIdleness_28 : decode cX3_awaitIdleness 28 = .ok (.return_, 1) := by decide +kernel
set_option maxRecDepth 20000 in
theorem ggX3_sleep_X3_enter : GoodIn wsX3_sleep wsX3_enter := goodIn_r _ [7, 8, 9, 10, 11, 12, 13, 14, 15, 16, 17, 18, 19, 20, 21, 22, 23] (by decide +kernel) (by decide +kernel)
set_option maxRecDepth 20000 in
theorem gX3_sleep_X3_enter : GoodIn wsX3_sleep (wsV RX3 92 RX3 yX3_enter wsX3_enter) := goodIn_app (goodIn_of _ (by decide +kernel)) ggX3_sleep_X3_enter
theorem dX3_sleep_0 : decode cX3_sleep 0 = .ok (.aload_n 0, 1) := by decide +kernel
theorem dX3_sleep_1 : decode cX3_sleep 1 = .ok (.dup, 1) := by decide +kernel
theorem dX3_sleep_2 : decode cX3_sleep 2 = .ok (.getfield 135, 3) := by decide +kernel
theorem dX3_sleep_5 : decode cX3_sleep 5 = .ok (.lconst 1, 1) := by decide +kernel
theorem dX3_sleep_6 : decode cX3_sleep 6 = .ok (.ladd, 1) := by decide +kernel
theorem dX3_sleep_7 : decode cX3_sleep 7 = .ok (.putfield 135, 3) := by decide +kernel
theorem dX3_sleep_10 : decode cX3_sleep 10 = .ok (.aload_n 0, 1) := by decide +kernel
theorem dX3_sleep_11 : decode cX3_sleep 11 = .ok (.iconst 3, 1) := by decide +kernel
theorem dX3_sleep_12 : decode cX3_sleep 12 = .ok (.ldc2_w 34, 3) := by decide +kernel
theorem dX3_sleep_15 : decode cX3_sleep 15 = .ok (.invokevirtual 92, 3) := by decide +kernel
theorem dX3_sleep_18 : decode cX3_sleep 18 = .ok (.return_, 1) := by decide +kernel
set_option maxRecDepth 20000 in
theorem ggX3_check_X3_enter : GoodIn wsX3_check wsX3_enter := goodIn_r _ [8, 9, 10, 11, 12, 13, 14, 15, 16, 17, 18, 19, 20, 21, 22, 23, 24] (by decide +kernel) (by decide +kernel)
set_option maxRecDepth 20000 in
theorem gX3_check_X3_enter : GoodIn wsX3_check (wsV RX3 92 RX3 yX3_enter wsX3_enter) := goodIn_app (goodIn_of _ (by decide +kernel)) ggX3_check_X3_enter
theorem dX3_check_0 : decode cX3_check 0 = .ok (.aload_n 0, 1) := by decide +kernel
theorem dX3_check_1 : decode cX3_check 1 = .ok (.dup, 1) := by decide +kernel
theorem dX3_check_2 : decode cX3_check 2 = .ok (.getfield 138, 3) := by decide +kernel
theorem dX3_check_5 : decode cX3_check 5 = .ok (.lconst 1, 1) := by decide +kernel
theorem dX3_check_6 : decode cX3_check 6 = .ok (.ladd, 1) := by decide +kernel
theorem dX3_check_7 : decode cX3_check 7 = .ok (.putfield 138, 3) := by decide +kernel
theorem dX3_check_10 : decode cX3_check 10 = .ok (.aload_n 0, 1) := by decide +kernel
theorem dX3_check_11 : decode cX3_check 11 = .ok (.iconst 4, 1) := by decide +kernel
theorem dX3_check_12 : decode cX3_check 12 = .ok (.aload_n 0, 1) := by decide +kernel
theorem dX3_check_13 : decode cX3_check 13 = .ok (.getfield 102, 3) := by decide +kernel
theorem dX3_check_16 : decode cX3_check 16 = .ok (.ldc2_w 175, 3) := by decide +kernel
theorem dX3_check_19 : decode cX3_check 19 = .ok (.ladd, 1) := by decide +kernel
theorem dX3_check_20 : decode cX3_check 20 = .ok (.invokevirtual 92, 3) := by decide +kernel
theorem dX3_check_23 : decode cX3_check 23 = .ok (.return_, 1) := by decide +kernel
theorem dX3_enter_0 : decode cX3_enter 0 = .ok (.aload_n 0, 1) := by decide +kernel
theorem dX3_enter_1 : decode cX3_enter 1 = .ok (.iload_n 1, 1) := by decide +kernel
theorem dX3_enter_2 : decode cX3_enter 2 = .ok (.putfield 30, 3) := by decide +kernel
theorem dX3_enter_5 : decode cX3_enter 5 = .ok (.aload_n 0, 1) := by decide +kernel
theorem dX3_enter_6 : decode cX3_enter 6 = .ok (.lload_n 2, 1) := by decide +kernel
theorem dX3_enter_7 : decode cX3_enter 7 = .ok (.putfield 36, 3) := by decide +kernel
theorem dX3_enter_10 : decode cX3_enter 10 = .ok (.return_, 1) := by decide +kernel
theorem dX4_init_0 : decode cX4_init 0 = .ok (.aload_n 0, 1) := by decide +kernel
theorem dX4_init_1 : decode cX4_init 1 = .ok (.invokespecial 1, 3) := by decide +kernel
theorem dX4_init_4 : decode cX4_init 4 = .ok (.aload_n 0, 1) := by decide +kernel
theorem dX4_init_5 : decode cX4_init 5 = .ok (.sipush 128, 3) := by decide +kernel
theorem dX4_init_8 : decode cX4_init 8 = .ok (.newarray .byte, 2) := by decide +kernel
theorem dX4_init_10 : decode cX4_init 10 = .ok (.putfield 7, 3) := by decide +kernel
theorem dX4_init_13 : decode cX4_init 13 = .ok (.aload_n 0, 1) := by decide +kernel
theorem dX4_init_14 : decode cX4_init 14 = .ok (.sipush 256, 3) := by decide +kernel
theorem dX4_init_17 : decode cX4_init 17 = .ok (.newarray .byte, 2) := by decide +kernel
theorem dX4_init_19 : decode cX4_init 19 = .ok (.putfield 13, 3) := by decide +kernel
theorem dX4_init_22 : decode cX4_init 22 = .ok (.aload_n 0, 1) := by decide +kernel
theorem dX4_init_23 : decode cX4_init 23 = .ok (.bipush 16, 2) := by decide +kernel
theorem dX4_init_25 : decode cX4_init 25 = .ok (.newarray .int, 2) := by decide +kernel
theorem dX4_init_27 : decode cX4_init 27 = .ok (.putfield 16, 3) := by decide +kernel
theorem dX4_init_30 : decode cX4_init 30 = .ok (.aload_n 0, 1) := by decide +kernel
theorem dX4_init_31 : decode cX4_init 31 = .ok (.bipush 8, 2) := by decide +kernel
theorem dX4_init_33 : decode cX4_init 33 = .ok (.newarray .boolean, 2) := by decide +kernel
theorem dX4_init_35 : decode cX4_init 35 = .ok (.putfield 20, 3) := by decide +kernel
theorem dX4_init_38 : decode cX4_init 38 = .ok (.aload_n 0, 1) := by decide +kernel
theorem dX4_init_39 : decode cX4_init 39 = .ok (.bipush 17, 2) := by decide +kernel
theorem dX4_init_41 : decode cX4_init 41 = .ok (.newarray .boolean, 2) := by decide +kernel
theorem dX4_init_43 : decode cX4_init 43 = .ok (.putfield 24, 3) := by decide +kernel
theorem dX4_init_46 : decode cX4_init 46 = .ok (.aload_n 0, 1) := by decide +kernel
theorem dX4_init_47 : decode cX4_init 47 = .ok (.bipush 21, 2) := by decide +kernel
theorem dX4_init_49 : decode cX4_init 49 = .ok (.newarray .boolean, 2) := by decide +kernel
theorem dX4_init_51 : decode cX4_init 51 = .ok (.putfield 27, 3) := by decide +kernel
theorem dX4_init_54 : decode cX4_init 54 = .ok (.aload_n 0, 1) := by decide +kernel
theorem dX4_init_55 : decode cX4_init 55 = .ok (.bipush 21, 2) := by decide +kernel
theorem dX4_init_57 : decode cX4_init 57 = .ok (.newarray .int, 2) := by decide +kernel
theorem dX4_init_59 : decode cX4_init 59 = .ok (.putfield 30, 3) := by decide +kernel
theorem dX4_init_62 : decode cX4_init 62 = .ok (.aload_n 0, 1) := by decide +kernel
theorem dX4_init_63 : decode cX4_init 63 = .ok (.bipush 21, 2) := by decide +kernel
theorem dX4_init_65 : decode cX4_init 65 = .ok (.newarray .boolean, 2) := by decide +kernel
theorem dX4_init_67 : decode cX4_init 67 = .ok (.putfield 33, 3) := by decide +kernel
theorem dX4_init_70 : decode cX4_init 70 = .ok (.aload_n 0, 1) := by decide +kernel
theorem dX4_init_71 : decode cX4_init 71 = .ok (.bipush 40, 2) := by decide +kernel
theorem dX4_init_73 : decode cX4_init 73 = .ok (.newarray .int, 2) := by decide +kernel
theorem dX4_init_75 : decode cX4_init 75 = .ok (.putfield 36, 3) := by decide +kernel
theorem dX4_init_78 : decode cX4_init 78 = .ok (.return_, 1) := by decide +kernel
theorem dX4_thrown_0 : decode cX4_thrown 0 = .ok (.aload_n 0, 1) := by decide +kernel
theorem dX4_thrown_1 : decode cX4_thrown 1 = .ok (.getfield 39, 3) := by decide +kernel
theorem dX4_thrown_4 : decode cX4_thrown 4 = .ok (.ireturn, 1) := by decide +kernel
theorem dX4_user_0 : decode cX4_user 0 = .ok (.aload_n 0, 1) := by decide +kernel
theorem dX4_user_1 : decode cX4_user 1 = .ok (.iconst 0, 1) := by decide +kernel
theorem dX4_user_2 : decode cX4_user 2 = .ok (.putfield 39, 3) := by decide +kernel
theorem dX4_user_5 : decode cX4_user 5 = .ok (.iconst 0, 1) := by decide +kernel
theorem dX4_user_6 : decode cX4_user 6 = .ok (.istore_n 1, 1) := by decide +kernel
theorem dX4_user_7 : decode cX4_user 7 = .ok (.iconst 1, 1) := by decide +kernel
theorem dX4_user_8 : decode cX4_user 8 = .ok (.istore_n 2, 1) := by decide +kernel
theorem dX4_user_9 : decode cX4_user 9 = .ok (.iload_n 2, 1) := by decide +kernel
theorem dX4_user_10 : decode cX4_user 10 = .ok (.bipush 16, 2) := by decide +kernel
theorem dX4_user_12 : decode cX4_user 12 = .ok (.if_icmp .gt 26, 3) := by decide +kernel
theorem dX4_user_15 : decode cX4_user 15 = .ok (.aload_n 0, 1) := by decide +kernel
theorem dX4_user_16 : decode cX4_user 16 = .ok (.getfield 24, 3) := by decide +kernel
theorem dX4_user_19 : decode cX4_user 19 = .ok (.iload_n 2, 1) := by decide +kernel
theorem dX4_user_20 : decode cX4_user 20 = .ok (.baload, 1) := by decide +kernel
theorem dX4_user_21 : decode cX4_user 21 = .ok (.ifCond .eq 9, 3) := by decide +kernel
theorem dX4_user_24 : decode cX4_user 24 = .ok (.iload_n 1, 1) := by decide +kernel
theorem dX4_user_25 : decode cX4_user 25 = .ok (.iconst 1, 1) := by decide +kernel
theorem dX4_user_26 : decode cX4_user 26 = .ok (.iadd, 1) := by decide +kernel
theorem dX4_user_27 : decode cX4_user 27 = .ok (.goto 4, 3) := by decide +kernel
theorem dX4_user_30 : decode cX4_user 30 = .ok (.iload_n 1, 1) := by decide +kernel
theorem dX4_user_31 : decode cX4_user 31 = .ok (.istore_n 1, 1) := by decide +kernel
theorem dX4_user_32 : decode cX4_user 32 = .ok (.iinc 2 1, 3) := by decide +kernel
theorem dX4_user_35 : decode cX4_user 35 = .ok (.goto (-26), 3) := by decide +kernel
theorem dX4_user_38 : decode cX4_user 38 = .ok (.iload_n 1, 1) := by decide +kernel
theorem dX4_user_39 : decode cX4_user 39 = .ok (.ireturn, 1) := by decide +kernel
set_option maxRecDepth 20000 in
theorem ggX4_request_X4_user : GoodIn wsX4_request wsX4_user := goodIn_ca (goodIn_r _ [10, 1, 3, 11, 12, 13, 14, 15, 16, 17, 18, 19, 20, 21, 22, 23, 24, 25, 26, 27, 28, 29, 30, 31, 32, 33] (by decide +kernel) (by decide +kernel)) (goodIn_sub (fun _ h => List.mem_cons_of_mem _ (List.mem_append_right _ h)) (by decide +kernel))
set_option maxRecDepth 20000 in
theorem gX4_request_X4_user : GoodIn wsX4_request (wsV RX4 46 RX4 yX4_user wsX4_user) := goodIn_app (goodIn_of _ (by decide +kernel)) ggX4_request_X4_user
theorem dX4_request_0 : decode cX4_request 0 = .ok (.aload_n 0, 1) := by decide +kernel
theorem dX4_request_1 : decode cX4_request 1 = .ok (.iconst 0, 1) := by decide +kernel
theorem dX4_request_2 : decode cX4_request 2 = .ok (.putfield 39, 3) := by decide +kernel
theorem dX4_request_5 : decode cX4_request 5 = .ok (.iload_n 1, 1) := by decide +kernel
theorem dX4_request_6 : decode cX4_request 6 = .ok (.iconst 1, 1) := by decide +kernel
theorem dX4_request_7 : decode cX4_request 7 = .ok (.if_icmp .lt 9, 3) := by decide +kernel
theorem dX4_request_10 : decode cX4_request 10 = .ok (.iload_n 1, 1) := by decide +kernel
theorem dX4_request_11 : decode cX4_request 11 = .ok (.bipush 16, 2) := by decide +kernel
theorem dX4_request_13 : decode cX4_request 13 = .ok (.if_icmp .le 5, 3) := by decide +kernel
theorem dX4_request_16 : decode cX4_request 16 = .ok (.iconst (-1), 1) := by decide +kernel
theorem dX4_request_17 : decode cX4_request 17 = .ok (.ireturn, 1) := by decide +kernel
theorem dX4_request_18 : decode cX4_request 18 = .ok (.aload_n 0, 1) := by decide +kernel
theorem dX4_request_19 : decode cX4_request 19 = .ok (.getfield 43, 3) := by decide +kernel
theorem dX4_request_22 : decode cX4_request 22 = .ok (.ifCond .eq 19, 3) := by decide +kernel
theorem dX4_request_25 : decode cX4_request 25 = .ok (.aload_n 0, 1) := by decide +kernel
theorem dX4_request_26 : decode cX4_request 26 = .ok (.getfield 43, 3) := by decide +kernel
theorem dX4_request_29 : decode cX4_request 29 = .ok (.iconst 3, 1) := by decide +kernel
theorem dX4_request_30 : decode cX4_request 30 = .ok (.if_icmp .eq 11, 3) := by decide +kernel
theorem dX4_request_33 : decode cX4_request 33 = .ok (.aload_n 0, 1) := by decide +kernel
theorem dX4_request_34 : decode cX4_request 34 = .ok (.getfield 43, 3) := by decide +kernel
theorem dX4_request_37 : decode cX4_request 37 = .ok (.iconst 5, 1) := by decide +kernel
theorem dX4_request_38 : decode cX4_request 38 = .ok (.if_icmp .ne 6, 3) := by decide +kernel
theorem dX4_request_41 : decode cX4_request 41 = .ok (.bipush (-3), 2) := by decide +kernel
theorem dX4_request_43 : decode cX4_request 43 = .ok (.ireturn, 1) := by decide +kernel
theorem dX4_request_44 : decode cX4_request 44 = .ok (.aload_n 0, 1) := by decide +kernel
theorem dX4_request_45 : decode cX4_request 45 = .ok (.getfield 24, 3) := by decide +kernel
theorem dX4_request_48 : decode cX4_request 48 = .ok (.iload_n 1, 1) := by decide +kernel
theorem dX4_request_49 : decode cX4_request 49 = .ok (.baload, 1) := by decide +kernel
theorem dX4_request_50 : decode cX4_request 50 = .ok (.istore_n 3, 1) := by decide +kernel
theorem dX4_request_51 : decode cX4_request 51 = .ok (.aload_n 0, 1) := by decide +kernel
theorem dX4_request_52 : decode cX4_request 52 = .ok (.getfield 24, 3) := by decide +kernel
