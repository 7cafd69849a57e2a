theorem dX3_start_37 : decode cX3_start 37 = .ok (.getfield 19, 3) := by decide +kernel
theorem dX3_start_40 : decode cX3_start 40 = .ok (.invokevirtual 114, 3) := by decide +kernel
theorem dX3_start_43 : decode cX3_start 43 = .ok (.aload_n 0, 1) := by decide +kernel
theorem dX3_start_44 : decode cX3_start 44 = .ok (.getfield 10, 3) := by decide +kernel
theorem dX3_start_47 : decode cX3_start 47 = .ok (.invokevirtual 117, 3) := by decide +kernel
theorem dX3_start_50 : decode cX3_start 50 = .ok (.aload_n 0, 1) := by decide +kernel
theorem dX3_start_51 : decode cX3_start 51 = .ok (.getfield 26, 3) := by decide +kernel
theorem dX3_start_54 : decode cX3_start 54 = .ok (.invokevirtual 120, 3) := by decide +kernel
theorem dX3_start_57 : decode cX3_start 57 = .ok (.ifCond .eq 10, 3) := by decide +kernel
theorem dX3_start_60 : decode cX3_start 60 = .ok (.aload_n 0, 1) := by decide +kernel
theorem dX3_start_61 : decode cX3_start 61 = .ok (.invokevirtual 58, 3) := by decide +kernel
theorem dX3_start_64 : decode cX3_start 64 = .ok (.goto 11, 3) := by decide +kernel
theorem dX3_start_67 : decode cX3_start 67 = .ok (.aload_n 0, 1) := by decide +kernel
theorem dX3_start_68 : decode cX3_start 68 = .ok (.iconst 5, 1) := by decide +kernel
theorem dX3_start_69 : decode cX3_start 69 = .ok (.ldc2_w 34, 3) := by decide +kernel
theorem dX3_start_72 : decode cX3_start 72 = .ok (.invokevirtual 92, 3) := by decide +kernel
theorem dX3_start_75 : decode cX3_start 75 = .ok (.aload_n 0, 1) := by decide +kernel
theorem dX3_start_76 : decode cX3_start 76 = .ok (.getfield 30, 3) := by decide +kernel
theorem dX3_start_79 : decode cX3_start 79 = .ok (.ireturn, 1) := by decide +kernel
set_option maxRecDepth 20000 in
theorem ggX3_kept_X0_has : GoodIn wsX3_kept wsX0_has := goodIn_r _ [8] (by decide +kernel) (by decide +kernel)
set_option maxRecDepth 20000 in
theorem gX3_kept_X0_has : GoodIn wsX3_kept (va_wsS RX3 78 yX0_has wsX0_has) := goodIn_app (goodIn_of _ (by decide +kernel)) ggX3_kept_X0_has
set_option maxRecDepth 20000 in
theorem ggX3_kept_X0_hasOctet : GoodIn wsX3_kept wsX0_hasOctet := goodIn_r _ [11] (by decide +kernel) (by decide +kernel)
set_option maxRecDepth 20000 in
theorem gX3_kept_X0_hasOctet : GoodIn wsX3_kept (va_wsS RX3 82 yX0_hasOctet wsX0_hasOctet) := goodIn_app (goodIn_of _ (by decide +kernel)) ggX3_kept_X0_hasOctet
set_option maxRecDepth 20000 in
theorem ggX3_kept_X0_keptOctet : GoodIn wsX3_kept wsX0_keptOctet := goodIn_ca (goodIn_r _ [15, 16, 17, 6, 7, 8, 18, 10, 11, 19, 20, 21, 22, 23, 44, 45, 46, 47] (by decide +kernel) (by decide +kernel)) (goodIn_sub (fun _ h => List.mem_cons_of_mem _ (List.mem_append_right _ h)) (by decide +kernel))
set_option maxRecDepth 20000 in
theorem gX3_kept_X0_keptOctet : GoodIn wsX3_kept (wsV RX3 131 RX0 yX0_keptOctet wsX0_keptOctet) := goodIn_app (goodIn_of _ (by decide +kernel)) ggX3_kept_X0_keptOctet
theorem dX3_kept_0 : decode cX3_kept 0 = .ok (.iload_n 1, 1) := by decide +kernel
theorem dX3_kept_1 : decode cX3_kept 1 = .ok (.invokestatic 78, 3) := by decide +kernel
theorem dX3_kept_4 : decode cX3_kept 4 = .ok (.ifCond .eq 10, 3) := by decide +kernel
theorem dX3_kept_7 : decode cX3_kept 7 = .ok (.iload_n 2, 1) := by decide +kernel
theorem dX3_kept_8 : decode cX3_kept 8 = .ok (.invokestatic 82, 3) := by decide +kernel
theorem dX3_kept_11 : decode cX3_kept 11 = .ok (.ifCond .ne 13, 3) := by decide +kernel
theorem dX3_kept_14 : decode cX3_kept 14 = .ok (.new 124, 3) := by decide +kernel
theorem dX3_kept_17 : decode cX3_kept 17 = .ok (.dup, 1) := by decide +kernel
theorem dX3_kept_18 : decode cX3_kept 18 = .ok (.ldc 126, 2) := by decide +kernel
theorem dX3_kept_20 : decode cX3_kept 20 = .ok (.invokespecial 128, 3) := by decide +kernel
theorem dX3_kept_23 : decode cX3_kept 23 = .ok (.athrow, 1) := by decide +kernel
theorem dX3_kept_24 : decode cX3_kept 24 = .ok (.aload_n 0, 1) := by decide +kernel
theorem dX3_kept_25 : decode cX3_kept 25 = .ok (.getfield 19, 3) := by decide +kernel
theorem dX3_kept_28 : decode cX3_kept 28 = .ok (.iload_n 1, 1) := by decide +kernel
theorem dX3_kept_29 : decode cX3_kept 29 = .ok (.iload_n 2, 1) := by decide +kernel
theorem dX3_kept_30 : decode cX3_kept 30 = .ok (.invokevirtual 131, 3) := by decide +kernel
theorem dX3_kept_33 : decode cX3_kept 33 = .ok (.ireturn, 1) := by decide +kernel
theorem dX3_bank_0 : decode cX3_bank 0 = .ok (.iload_n 1, 1) := by decide +kernel
theorem dX3_bank_1 : decode cX3_bank 1 = .ok (.ifCond .ne 13, 3) := by decide +kernel
theorem dX3_bank_4 : decode cX3_bank 4 = .ok (.aload_n 0, 1) := by decide +kernel
theorem dX3_bank_5 : decode cX3_bank 5 = .ok (.iconst 1, 1) := by decide +kernel
theorem dX3_bank_6 : decode cX3_bank 6 = .ok (.aload_n 0, 1) := by decide +kernel
theorem dX3_bank_7 : decode cX3_bank 7 = .ok (.getfield 108, 3) := by decide +kernel
theorem dX3_bank_10 : decode cX3_bank 10 = .ok (.isub, 1) := by decide +kernel
theorem dX3_bank_11 : decode cX3_bank 11 = .ok (.putfield 108, 3) := by decide +kernel
theorem dX3_bank_14 : decode cX3_bank 14 = .ok (.aload_n 0, 1) := by decide +kernel
theorem dX3_bank_15 : decode cX3_bank 15 = .ok (.getfield 108, 3) := by decide +kernel
theorem dX3_bank_18 : decode cX3_bank 18 = .ok (.ireturn, 1) := by decide +kernel
theorem dX3_time_0 : decode cX3_time 0 = .ok (.iload_n 1, 1) := by decide +kernel
theorem dX3_time_1 : decode cX3_time 1 = .ok (.tableswitch 79 0 6 #[43, 48, 53, 58, 63, 68, 73], 43) := by decide +kernel
theorem dX3_time_44 : decode cX3_time 44 = .ok (.aload_n 0, 1) := by decide +kernel
theorem dX3_time_45 : decode cX3_time 45 = .ok (.getfield 102, 3) := by decide +kernel
theorem dX3_time_48 : decode cX3_time 48 = .ok (.lreturn, 1) := by decide +kernel
theorem dX3_time_49 : decode cX3_time 49 = .ok (.aload_n 0, 1) := by decide +kernel
theorem dX3_time_50 : decode cX3_time 50 = .ok (.getfield 99, 3) := by decide +kernel
theorem dX3_time_53 : decode cX3_time 53 = .ok (.lreturn, 1) := by decide +kernel
theorem dX3_time_54 : decode cX3_time 54 = .ok (.aload_n 0, 1) := by decide +kernel
theorem dX3_time_55 : decode cX3_time 55 = .ok (.getfield 135, 3) := by decide +kernel
theorem dX3_time_58 : decode cX3_time 58 = .ok (.lreturn, 1) := by decide +kernel
theorem dX3_time_59 : decode cX3_time 59 = .ok (.aload_n 0, 1) := by decide +kernel
theorem dX3_time_60 : decode cX3_time 60 = .ok (.getfield 138, 3) := by decide +kernel
theorem dX3_time_63 : decode cX3_time 63 = .ok (.lreturn, 1) := by decide +kernel
theorem dX3_time_64 : decode cX3_time 64 = .ok (.aload_n 0, 1) := by decide +kernel
theorem dX3_time_65 : decode cX3_time 65 = .ok (.getfield 89, 3) := by decide +kernel
theorem dX3_time_68 : decode cX3_time 68 = .ok (.lreturn, 1) := by decide +kernel
theorem dX3_time_69 : decode cX3_time 69 = .ok (.aload_n 0, 1) := by decide +kernel
theorem dX3_time_70 : decode cX3_time 70 = .ok (.getfield 105, 3) := by decide +kernel
theorem dX3_time_73 : decode cX3_time 73 = .ok (.lreturn, 1) := by decide +kernel
theorem dX3_time_74 : decode cX3_time 74 = .ok (.aload_n 0, 1) := by decide +kernel
theorem dX3_time_75 : decode cX3_time 75 = .ok (.getfield 111, 3) := by decide +kernel
theorem dX3_time_78 : decode cX3_time 78 = .ok (.i2l, 1) := by decide +kernel
theorem dX3_time_79 : decode cX3_time 79 = .ok (.lreturn, 1) := by decide +kernel
theorem dX3_time_80 : decode cX3_time 80 = .ok (.ldc2_w 141, 3) := by decide +kernel
theorem dX3_time_83 : decode cX3_time 83 = .ok (.lreturn, 1) := by decide +kernel
set_option maxRecDepth 20000 in
theorem ggX3_order_X1_thing : GoodIn wsX3_order wsX1_thing := goodIn_ca (goodIn_r _ [6, 7, 8, 23, 24, 25, 26, 27, 28] (by decide +kernel) (by decide +kernel)) (goodIn_sub (fun _ h => List.mem_cons_of_mem _ (List.mem_append_right _ h)) (by decide +kernel))
set_option maxRecDepth 20000 in
theorem gX3_order_X1_thing : GoodIn wsX3_order (wsV RX3 143 RX1 yX1_thing wsX1_thing) := goodIn_app (goodIn_of _ (by decide +kernel)) ggX3_order_X1_thing
theorem dX3_order_0 : decode cX3_order 0 = .ok (.aload_n 0, 1) := by decide +kernel
theorem dX3_order_1 : decode cX3_order 1 = .ok (.getfield 26, 3) := by decide +kernel
theorem dX3_order_4 : decode cX3_order 4 = .ok (.iload_n 1, 1) := by decide +kernel
theorem dX3_order_5 : decode cX3_order 5 = .ok (.invokevirtual 143, 3) := by decide +kernel
theorem dX3_order_8 : decode cX3_order 8 = .ok (.ireturn, 1) := by decide +kernel
theorem dX3_canAdvance_0 : decode cX3_canAdvance 0 = .ok (.lload_n 1, 1) := by decide +kernel
theorem dX3_canAdvance_1 : decode cX3_canAdvance 1 = .ok (.aload_n 0, 1) := by decide +kernel
theorem dX3_canAdvance_2 : decode cX3_canAdvance 2 = .ok (.getfield 102, 3) := by decide +kernel
theorem dX3_canAdvance_5 : decode cX3_canAdvance 5 = .ok (.lcmp, 1) := by decide +kernel
theorem dX3_canAdvance_6 : decode cX3_canAdvance 6 = .ok (.ifCond .lt 20, 3) := by decide +kernel
theorem dX3_canAdvance_9 : decode cX3_canAdvance 9 = .ok (.lload_n 1, 1) := by decide +kernel
theorem dX3_canAdvance_10 : decode cX3_canAdvance 10 = .ok (.aload_n 0, 1) := by decide +kernel
theorem dX3_canAdvance_11 : decode cX3_canAdvance 11 = .ok (.getfield 102, 3) := by decide +kernel
theorem dX3_canAdvance_14 : decode cX3_canAdvance 14 = .ok (.lsub, 1) := by decide +kernel
theorem dX3_canAdvance_15 : decode cX3_canAdvance 15 = .ok (.ldc2_w 147, 3) := by decide +kernel
theorem dX3_canAdvance_18 : decode cX3_canAdvance 18 = .ok (.lcmp, 1) := by decide +kernel
theorem dX3_canAdvance_19 : decode cX3_canAdvance 19 = .ok (.ifCond .gt 7, 3) := by decide +kernel
theorem dX3_canAdvance_22 : decode cX3_canAdvance 22 = .ok (.iconst 1, 1) := by decide +kernel
theorem dX3_canAdvance_23 : decode cX3_canAdvance 23 = .ok (.goto 4, 3) := by decide +kernel
theorem dX3_canAdvance_26 : decode cX3_canAdvance 26 = .ok (.iconst 0, 1) := by decide +kernel
theorem dX3_canAdvance_27 : decode cX3_canAdvance 27 = .ok (.ireturn, 1) := by decide +kernel
set_option maxRecDepth 20000 in
theorem ggX3_advance_X3_happen : GoodIn wsX3_advance wsX3_happen := goodIn_ca (goodIn_r _ [8, 9, 10, 11, 12, 7, 13, 14, 15, 3, 16, 17, 18, 19, 20, 21, 22, 23, 24, 25, 26, 27, 2, 28, 29, 30, 31, 1, 32, 33, 34, 35, 36, 37, 38, 39, 40, 41, 42, 43, 44, 45, 46, 47, 48, 49, 50, 51, 52, 53, 54, 55, 56, 57, 58, 59, 60, 61, 62, 63, 64, 65, 66, 67, 68, 69, 70, 71, 72, 73, 74, 75, 76, 77, 78, 79, 80, 81, 82, 83, 84, 85, 86, 87, 88, 89, 90, 91, 92, 93] (by decide +kernel) (by decide +kernel)) (goodIn_sub (fun _ h => List.mem_cons_of_mem _ (List.mem_append_right _ h)) (by decide +kernel))
set_option maxRecDepth 20000 in
theorem gX3_advance_X3_happen : GoodIn wsX3_advance (wsV RX3 149 RX3 yX3_happen wsX3_happen) := goodIn_app (goodIn_of _ (by decide +kernel)) ggX3_advance_X3_happen
theorem dX3_advance_0 : decode cX3_advance 0 = .ok (.iconst 0, 1) := by decide +kernel
theorem dX3_advance_1 : decode cX3_advance 1 = .ok (.istore_n 3, 1) := by decide +kernel
theorem dX3_advance_2 : decode cX3_advance 2 = .ok (.iload_n 3, 1) := by decide +kernel
theorem dX3_advance_3 : decode cX3_advance 3 = .ok (.sipush 1000, 3) := by decide +kernel
theorem dX3_advance_6 : decode cX3_advance 6 = .ok (.if_icmp .ge 41, 3) := by decide +kernel
theorem dX3_advance_9 : decode cX3_advance 9 = .ok (.aload_n 0, 1) := by decide +kernel
theorem dX3_advance_10 : decode cX3_advance 10 = .ok (.getfield 36, 3) := by decide +kernel
theorem dX3_advance_13 : decode cX3_advance 13 = .ok (.ldc2_w 34, 3) := by decide +kernel
theorem dX3_advance_16 : decode cX3_advance 16 = .ok (.lcmp, 1) := by decide +kernel
theorem dX3_advance_17 : decode cX3_advance 17 = .ok (.ifCond .eq 30, 3) := by decide +kernel
theorem dX3_advance_20 : decode cX3_advance 20 = .ok (.aload_n 0, 1) := by decide +kernel
theorem dX3_advance_21 : decode cX3_advance 21 = .ok (.getfield 36, 3) := by decide +kernel
theorem dX3_advance_24 : decode cX3_advance 24 = .ok (.lload_n 1, 1) := by decide +kernel
theorem dX3_advance_25 : decode cX3_advance 25 = .ok (.lcmp, 1) := by decide +kernel
theorem dX3_advance_26 : decode cX3_advance 26 = .ok (.ifCond .gt 21, 3) := by decide +kernel
theorem dX3_advance_29 : decode cX3_advance 29 = .ok (.aload_n 0, 1) := by decide +kernel
theorem dX3_advance_30 : decode cX3_advance 30 = .ok (.aload_n 0, 1) := by decide +kernel
theorem dX3_advance_31 : decode cX3_advance 31 = .ok (.getfield 36, 3) := by decide +kernel
theorem dX3_advance_34 : decode cX3_advance 34 = .ok (.putfield 102, 3) := by decide +kernel
theorem dX3_advance_37 : decode cX3_advance 37 = .ok (.aload_n 0, 1) := by decide +kernel
theorem dX3_advance_38 : decode cX3_advance 38 = .ok (.invokevirtual 149, 3) := by decide +kernel
theorem dX3_advance_41 : decode cX3_advance 41 = .ok (.iinc 3 1, 3) := by decide +kernel
theorem dX3_advance_44 : decode cX3_advance 44 = .ok (.goto (-42), 3) := by decide +kernel
theorem dX3_advance_47 : decode cX3_advance 47 = .ok (.aload_n 0, 1) := by decide +kernel
theorem dX3_advance_48 : decode cX3_advance 48 = .ok (.lload_n 1, 1) := by decide +kernel
theorem dX3_advance_49 : decode cX3_advance 49 = .ok (.putfield 102, 3) := by decide +kernel
theorem dX3_advance_52 : decode cX3_advance 52 = .ok (.return_, 1) := by decide +kernel
set_option maxRecDepth 20000 in
theorem ggX3_happen_X3_saveNextOrSleep : GoodIn wsX3_happen wsX3_saveNextOrSleep := goodIn_ca (goodIn_r _ [6, 7, 8, 9, 10, 11, 12, 13, 14, 15, 16, 17, 18, 19, 5, 20, 21, 22, 23, 24, 25, 26, 1, 27, 28, 29, 30, 31, 32, 33, 34, 35, 36, 37, 38, 39, 70, 71, 72, 73, 74, 75, 76, 77, 78, 79, 80, 81, 82, 83, 84, 85, 86, 87] (by decide +kernel) (by decide +kernel)) (goodIn_sub (fun _ h => List.mem_cons_of_mem _ (List.mem_append_right _ h)) (by decide +kernel))
set_option maxRecDepth 20000 in
theorem gX3_happen_X3_saveNextOrSleep : GoodIn wsX3_happen (wsV RX3 152 RX3 yX3_saveNextOrSleep wsX3_saveNextOrSleep) := goodIn_app (goodIn_of _ (by decide +kernel)) ggX3_happen_X3_saveNextOrSleep
set_option maxRecDepth 20000 in
theorem ggX3_happen_X3_endSaving : GoodIn wsX3_happen wsX3_endSaving := goodIn_ca (goodIn_r _ [43, 7, 8, 44, 45, 46, 47, 14, 48, 49, 50, 51, 52, 53, 54, 32, 16, 33, 34, 35, 36, 37, 38, 39, 55, 56, 57, 58, 59, 60, 61, 62, 63, 5, 64, 1, 65, 66, 67, 68, 9, 69, 22, 27, 2, 3, 4, 6, 10, 11, 12, 13, 15, 17, 18, 19, 20, 21, 23, 24, 25, 26, 28, 29, 30, 31, 70, 71, 72, 73, 74, 75, 76, 77, 78, 79, 80, 81, 82, 83, 84, 85, 86, 87, 88, 89] (by decide +kernel) (by decide +kernel)) (goodIn_sub (fun _ h => List.mem_cons_of_mem _ (List.mem_append_right _ h)) (by decide +kernel))
set_option maxRecDepth 20000 in
theorem gX3_happen_X3_endSaving : GoodIn wsX3_happen (wsV RX3 155 RX3 yX3_endSaving wsX3_endSaving) := goodIn_app (goodIn_of _ (by decide +kernel)) ggX3_happen_X3_endSaving
set_option maxRecDepth 20000 in
theorem ggX3_happen_X3_sleep : GoodIn wsX3_happen wsX3_sleep := goodIn_r _ [20, 21, 22, 23, 24, 25, 5, 26, 1, 27, 70, 71, 72, 73, 74, 75, 76, 77, 78, 79, 80, 81, 82, 83] (by decide +kernel) (by decide +kernel)
set_option maxRecDepth 20000 in
theorem gX3_happen_X3_sleep : GoodIn wsX3_happen (wsV RX3 158 RX3 yX3_sleep wsX3_sleep) := goodIn_app (goodIn_of _ (by decide +kernel)) ggX3_happen_X3_sleep
theorem dX3_happen_0 : decode cX3_happen 0 = .ok (.aload_n 0, 1) := by decide +kernel
theorem dX3_happen_1 : decode cX3_happen 1 = .ok (.getfield 30, 3) := by decide +kernel
theorem dX3_happen_4 : decode cX3_happen 4 = .ok (.iconst 1, 1) := by decide +kernel
theorem dX3_happen_5 : decode cX3_happen 5 = .ok (.if_icmp .ne 10, 3) := by decide +kernel
theorem dX3_happen_8 : decode cX3_happen 8 = .ok (.aload_n 0, 1) := by decide +kernel
theorem dX3_happen_9 : decode cX3_happen 9 = .ok (.invokevirtual 152, 3) := by decide +kernel
theorem dX3_happen_12 : decode cX3_happen 12 = .ok (.goto 22, 3) := by decide +kernel
theorem dX3_happen_15 : decode cX3_happen 15 = .ok (.aload_n 0, 1) := by decide +kernel
theorem dX3_happen_16 : decode cX3_happen 16 = .ok (.getfield 30, 3) := by decide +kernel
theorem dX3_happen_19 : decode cX3_happen 19 = .ok (.iconst 2, 1) := by decide +kernel
theorem dX3_happen_20 : decode cX3_happen 20 = .ok (.if_icmp .ne 10, 3) := by decide +kernel
theorem dX3_happen_23 : decode cX3_happen 23 = .ok (.aload_n 0, 1) := by decide +kernel
theorem dX3_happen_24 : decode cX3_happen 24 = .ok (.invokevirtual 155, 3) := by decide +kernel
theorem dX3_happen_27 : decode cX3_happen 27 = .ok (.goto 7, 3) := by decide +kernel
theorem dX3_happen_30 : decode cX3_happen 30 = .ok (.aload_n 0, 1) := by decide +kernel
theorem dX3_happen_31 : decode cX3_happen 31 = .ok (.invokevirtual 158, 3) := by decide +kernel
theorem dX3_happen_34 : decode cX3_happen 34 = .ok (.return_, 1) := by decide +kernel
set_option maxRecDepth 20000 in
theorem ggX3_saveNextOrSleep_X0_firstChanged : GoodIn wsX3_saveNextOrSleep wsX0_firstChanged := goodIn_ca (goodIn_r _ [9, 10, 50, 51, 52, 53] (by decide +kernel) (by decide +kernel)) (goodIn_sub (fun _ h => List.mem_cons_of_mem _ (List.mem_append_right _ h)) (by decide +kernel))
set_option maxRecDepth 20000 in
theorem gX3_saveNextOrSleep_X0_firstChanged : GoodIn wsX3_saveNextOrSleep (wsV RX3 161 RX0 yX0_firstChanged wsX0_firstChanged) := goodIn_app (goodIn_of _ (by decide +kernel)) ggX3_saveNextOrSleep_X0_firstChanged
set_option maxRecDepth 20000 in
theorem ggX3_saveNextOrSleep_X3_sleep : GoodIn wsX3_saveNextOrSleep wsX3_sleep := goodIn_r _ [15, 16, 17, 18, 19, 20, 14, 21, 22, 23, 36, 37, 38, 39, 40, 41, 42, 43, 44, 45, 46, 47, 48, 49] (by decide +kernel) (by decide +kernel)
set_option maxRecDepth 20000 in
theorem gX3_saveNextOrSleep_X3_sleep : GoodIn wsX3_saveNextOrSleep (wsV RX3 158 RX3 yX3_sleep wsX3_sleep) := goodIn_app (goodIn_of _ (by decide +kernel)) ggX3_saveNextOrSleep_X3_sleep
set_option maxRecDepth 20000 in
theorem ggX3_saveNextOrSleep_X0_tear : GoodIn wsX3_saveNextOrSleep wsX0_tear := goodIn_ca (goodIn_r _ [27, 28, 29, 30, 8, 31, 32, 33, 34, 35, 50, 51, 52, 53] (by decide +kernel) (by decide +kernel)) (goodIn_sub (fun _ h => List.mem_cons_of_mem _ (List.mem_append_right _ h)) (by decide +kernel))
set_option maxRecDepth 20000 in
theorem gX3_saveNextOrSleep_X0_tear : GoodIn wsX3_saveNextOrSleep (wsV RX3 164 RX0 yX0_tear wsX0_tear) := goodIn_app (goodIn_of _ (by decide +kernel)) ggX3_saveNextOrSleep_X0_tear
set_option maxRecDepth 20000 in
theorem ggX3_saveNextOrSleep_X3_enter : GoodIn wsX3_saveNextOrSleep wsX3_enter := goodIn_r _ [21, 22, 23, 36, 37, 38, 39, 40, 41, 42, 43, 44, 45, 46, 47, 48, 49] (by decide +kernel) (by decide +kernel)
set_option maxRecDepth 20000 in
theorem gX3_saveNextOrSleep_X3_enter : GoodIn wsX3_saveNextOrSleep (wsV RX3 92 RX3 yX3_enter wsX3_enter) := goodIn_app (goodIn_of _ (by decide +kernel)) ggX3_saveNextOrSleep_X3_enter
theorem dX3_saveNextOrSleep_0 : decode cX3_saveNextOrSleep 0 = .ok (.aload_n 0, 1) := by decide +kernel
theorem dX3_saveNextOrSleep_1 : decode cX3_saveNextOrSleep 1 = .ok (.aload_n 0, 1) := by decide +kernel
theorem dX3_saveNextOrSleep_2 : decode cX3_saveNextOrSleep 2 = .ok (.getfield 19, 3) := by decide +kernel
theorem dX3_saveNextOrSleep_5 : decode cX3_saveNextOrSleep 5 = .ok (.invokevirtual 161, 3) := by decide +kernel
theorem dX3_saveNextOrSleep_8 : decode cX3_saveNextOrSleep 8 = .ok (.putfield 40, 3) := by decide +kernel
theorem dX3_saveNextOrSleep_11 : decode cX3_saveNextOrSleep 11 = .ok (.aload_n 0, 1) := by decide +kernel
theorem dX3_saveNextOrSleep_12 : decode cX3_saveNextOrSleep 12 = .ok (.getfield 40, 3) := by decide +kernel
theorem dX3_saveNextOrSleep_15 : decode cX3_saveNextOrSleep 15 = .ok (.iconst (-1), 1) := by decide +kernel
theorem dX3_saveNextOrSleep_16 : decode cX3_saveNextOrSleep 16 = .ok (.if_icmp .ne 10, 3) := by decide +kernel
theorem dX3_saveNextOrSleep_19 : decode cX3_saveNextOrSleep 19 = .ok (.aload_n 0, 1) := by decide +kernel
theorem dX3_saveNextOrSleep_20 : decode cX3_saveNextOrSleep 20 = .ok (.invokevirtual 158, 3) := by decide +kernel
theorem dX3_saveNextOrSleep_23 : decode cX3_saveNextOrSleep 23 = .ok (.goto 27, 3) := by decide +kernel
theorem dX3_saveNextOrSleep_26 : decode cX3_saveNextOrSleep 26 = .ok (.aload_n 0, 1) := by decide +kernel
theorem dX3_saveNextOrSleep_27 : decode cX3_saveNextOrSleep 27 = .ok (.getfield 19, 3) := by decide +kernel
theorem dX3_saveNextOrSleep_30 : decode cX3_saveNextOrSleep 30 = .ok (.aload_n 0, 1) := by decide +kernel
theorem dX3_saveNextOrSleep_31 : decode cX3_saveNextOrSleep 31 = .ok (.getfield 40, 3) := by decide +kernel
theorem dX3_saveNextOrSleep_34 : decode cX3_saveNextOrSleep 34 = .ok (.invokevirtual 164, 3) := by decide +kernel
theorem dX3_saveNextOrSleep_37 : decode cX3_saveNextOrSleep 37 = .ok (.aload_n 0, 1) := by decide +kernel
theorem dX3_saveNextOrSleep_38 : decode cX3_saveNextOrSleep 38 = .ok (.iconst 2, 1) := by decide +kernel
theorem dX3_saveNextOrSleep_39 : decode cX3_saveNextOrSleep 39 = .ok (.aload_n 0, 1) := by decide +kernel
theorem dX3_saveNextOrSleep_40 : decode cX3_saveNextOrSleep 40 = .ok (.getfield 102, 3) := by decide +kernel
theorem dX3_saveNextOrSleep_43 : decode cX3_saveNextOrSleep 43 = .ok (.ldc2_w 168, 3) := by decide +kernel
theorem dX3_saveNextOrSleep_46 : decode cX3_saveNextOrSleep 46 = .ok (.ladd, 1) := by decide +kernel
theorem dX3_saveNextOrSleep_47 : decode cX3_saveNextOrSleep 47 = .ok (.invokevirtual 92, 3) := by decide +kernel
theorem dX3_saveNextOrSleep_50 : decode cX3_saveNextOrSleep 50 = .ok (.return_, 1) := by decide +kernel
set_option maxRecDepth 20000 in
theorem ggX3_endSaving_X0_save : GoodIn wsX3_endSaving wsX0_save := goodIn_ca (goodIn_r _ [8, 9, 10, 11, 12, 13, 14, 15, 16, 17, 18, 7, 19, 20, 21, 22, 23, 80, 81, 82, 83] (by decide +kernel) (by decide +kernel)) (goodIn_sub (fun _ h => List.mem_cons_of_mem _ (List.mem_append_right _ h)) (by decide +kernel))
set_option maxRecDepth 20000 in
theorem gX3_endSaving_X0_save : GoodIn wsX3_endSaving (wsV RX3 170 RX0 yX0_save wsX0_save) := goodIn_app (goodIn_of _ (by decide +kernel)) ggX3_endSaving_X0_save
set_option maxRecDepth 20000 in
theorem ggX3_endSaving_X2_howMany : GoodIn wsX3_endSaving wsX2_howMany := goodIn_r _ [28, 29, 84, 85] (by decide +kernel) (by decide +kernel)
set_option maxRecDepth 20000 in
theorem gX3_endSaving_X2_howMany : GoodIn wsX3_endSaving (wsV RX3 43 RX2 yX2_howMany wsX2_howMany) := goodIn_app (goodIn_of _ (by decide +kernel)) ggX3_endSaving_X2_howMany
set_option maxRecDepth 20000 in
theorem ggX3_endSaving_X3_run : GoodIn wsX3_endSaving wsX3_run := goodIn_r _ [34, 35, 36, 37, 38, 33, 39, 3, 40, 41, 42, 43, 24, 25, 26, 27, 28, 29, 66, 67, 68, 69, 70, 71, 72, 73, 74, 75, 76, 77, 78, 79, 84, 85] (by decide +kernel) (by decide +kernel)
set_option maxRecDepth 20000 in
theorem gX3_endSaving_X3_run : GoodIn wsX3_endSaving (wsV RX3 58 RX3 yX3_run wsX3_run) := goodIn_app (goodIn_of _ (by decide +kernel)) ggX3_endSaving_X3_run
set_option maxRecDepth 20000 in
theorem ggX3_endSaving_X3_saveNextOrSleep : GoodIn wsX3_endSaving wsX3_saveNextOrSleep := goodIn_ca (goodIn_r _ [47, 1, 2, 40, 48, 49, 50, 51, 7, 52, 16, 53, 54, 55, 33, 56, 57, 42, 58, 59, 60, 61, 35, 43, 62, 63, 64, 65, 15, 17, 18, 19, 20, 21, 22, 23, 66, 67, 68, 69, 70, 71, 72, 73, 74, 75, 76, 77, 78, 79, 80, 81, 82, 83] (by decide +kernel) (by decide +kernel)) (goodIn_sub (fun _ h => List.mem_cons_of_mem _ (List.mem_append_right _ h)) (by decide +kernel))
set_option maxRecDepth 20000 in
theorem gX3_endSaving_X3_saveNextOrSleep : GoodIn wsX3_endSaving (wsV RX3 152 RX3 yX3_saveNextOrSleep wsX3_saveNextOrSleep) := goodIn_app (goodIn_of _ (by decide +kernel)) ggX3_endSaving_X3_saveNextOrSleep
theorem dX3_endSaving_0 : decode cX3_endSaving 0 = .ok (.aload_n 0, 1) := by decide +kernel
theorem dX3_endSaving_1 : decode cX3_endSaving 1 = .ok (.getfield 19, 3) := by decide +kernel
theorem dX3_endSaving_4 : decode cX3_endSaving 4 = .ok (.aload_n 0, 1) := by decide +kernel
theorem dX3_endSaving_5 : decode cX3_endSaving 5 = .ok (.getfield 40, 3) := by decide +kernel
theorem dX3_endSaving_8 : decode cX3_endSaving 8 = .ok (.invokevirtual 170, 3) := by decide +kernel
theorem dX3_endSaving_11 : decode cX3_endSaving 11 = .ok (.aload_n 0, 1) := by decide +kernel
theorem dX3_endSaving_12 : decode cX3_endSaving 12 = .ok (.iconst (-1), 1) := by decide +kernel
theorem dX3_endSaving_13 : decode cX3_endSaving 13 = .ok (.putfield 40, 3) := by decide +kernel
theorem dX3_endSaving_16 : decode cX3_endSaving 16 = .ok (.aload_n 0, 1) := by decide +kernel
theorem dX3_endSaving_17 : decode cX3_endSaving 17 = .ok (.getfield 10, 3) := by decide +kernel
theorem dX3_endSaving_20 : decode cX3_endSaving 20 = .ok (.invokevirtual 43, 3) := by decide +kernel
theorem dX3_endSaving_23 : decode cX3_endSaving 23 = .ok (.ifCond .le 10, 3) := by decide +kernel
theorem dX3_endSaving_26 : decode cX3_endSaving 26 = .ok (.aload_n 0, 1) := by decide +kernel
theorem dX3_endSaving_27 : decode cX3_endSaving 27 = .ok (.invokevirtual 58, 3) := by decide +kernel
theorem dX3_endSaving_30 : decode cX3_endSaving 30 = .ok (.goto 7, 3) := by decide +kernel
theorem dX3_endSaving_33 : decode cX3_endSaving 33 = .ok (.aload_n 0, 1) := by decide +kernel
theorem dX3_endSaving_34 : decode cX3_endSaving 34 = .ok (.invokevirtual 152, 3) := by decide +kernel
theorem dX3_endSaving_37 : decode cX3_endSaving 37 = .ok (.return_, 1) := by decide +kernel
set_option maxRecDepth 20000 in
theorem ggX3_run_X3_awaitIdleness : GoodIn wsX3_run wsX3_awaitIdleness := goodIn_r _ [6, 7, 8, 9, 10, 11, 12, 13, 14, 15, 16, 17, 18, 19, 20, 21, 22, 23, 24, 25, 26, 27, 28, 29, 30, 31, 32, 33] (by decide +kernel) (by decide +kernel)
set_option maxRecDepth 20000 in
theorem gX3_run_X3_awaitIdleness : GoodIn wsX3_run (wsV RX3 55 RX3 yX3_awaitIdleness wsX3_awaitIdleness) := goodIn_app (goodIn_of _ (by decide +kernel)) ggX3_run_X3_awaitIdleness
theorem dX3_run_0 : decode cX3_run 0 = .ok (.aload_n 0, 1) := by decide +kernel
theorem dX3_run_1 : decode cX3_run 1 = .ok (.iconst 1, 1) := by decide +kernel
theorem dX3_run_2 : decode cX3_run 2 = .ok (.putfield 30, 3) := by decide +kernel
theorem dX3_run_5 : decode cX3_run 5 = .ok (.aload_n 0, 1) := by decide +kernel
theorem dX3_run_6 : decode cX3_run 6 = .ok (.invokevirtual 55, 3) := by decide +kernel
theorem dX3_run_9 : decode cX3_run 9 = .ok (.return_, 1) := by decide +kernel
set_option maxRecDepth 20000 in
theorem ggX3_awaitIdleness_X2_howMany : GoodIn wsX3_awaitIdleness wsX2_howMany := goodIn_r _ [10, 11, 26, 27] (by decide +kernel) (by decide +kernel)
set_option maxRecDepth 20000 in
theorem gX3_awaitIdleness_X2_howMany : GoodIn wsX3_awaitIdleness (wsV RX3 43 RX2 yX2_howMany wsX2_howMany) := goodIn_app (goodIn_of _ (by decide +kernel)) ggX3_awaitIdleness_X2_howMany
theorem dX3_awaitIdleness_0 : decode cX3_awaitIdleness 0 = .ok (.aload_n 0, 1) := by decide +kernel
theorem dX3_awaitIdleness_1 : decode cX3_awaitIdleness 1 = .ok (.aload_n 0, 1) := by decide +kernel
theorem dX3_awaitIdleness_2 : decode cX3_awaitIdleness 2 = .ok (.getfield 10, 3) := by decide +kernel
theorem dX3_awaitIdleness_5 : decode cX3_awaitIdleness 5 = .ok (.invokevirtual 43, 3) := by decide +kernel
theorem dX3_awaitIdleness_8 : decode cX3_awaitIdleness 8 = .ok (.ifCond .ne 14, 3) := by decide +kernel
theorem dX3_awaitIdleness_11 : decode cX3_awaitIdleness 11 = .ok (.aload_n 0, 1) := by decide +kernel
theorem dX3_awaitIdleness_12 : decode cX3_awaitIdleness 12 = .ok (.getfield 102, 3) := by decide +kernel
theorem dX3_awaitIdleness_15 : decode cX3_awaitIdleness 15 = .ok (.ldc2_w 173, 3) := by decide +kernel
theorem dX3_awaitIdleness_18 : decode cX3_awaitIdleness 18 = .ok (.ladd, 1) := by decide +kernel
theorem dX3_awaitIdleness_19 : decode cX3_awaitIdleness 19 = .ok (.goto 6, 3) := by decide +kernel
theorem dX3_awaitIdleness_22 : decode cX3_awaitIdleness 22 = .ok (.ldc2_w 34, 3) := by decide +kernel
theorem dX3_awaitIdleness_25 : decode cX3_awaitIdleness 25 = .ok (.putfield 36, 3) := by decide +kernel
theorem dX3_awaitIdleness_28 : decode cX3_awaitIdleness 28 = .ok (.return_, 1) := by decide +kernel
set_option maxRecDepth 20000 in
theorem ggX3_sleep_X3_enter : GoodIn wsX3_sleep wsX3_enter := goodIn_r _ [7, 8, 9, 10, 11, 12, 13, 14, 15, 16, 17, 18, 19, 20, 21, 22, 23] (by decide +kernel) (by decide +kernel)
set_option maxRecDepth 20000 in
theorem gX3_sleep_X3_enter : GoodIn wsX3_sleep (wsV RX3 92 RX3 yX3_enter wsX3_enter) := goodIn_app (goodIn_of _ (by decide +kernel)) ggX3_sleep_X3_enter
theorem dX3_sleep_0 : decode cX3_sleep 0 = .ok (.aload_n 0, 1) := by decide +kernel
theorem dX3_sleep_1 : decode cX3_sleep 1 = .ok (.dup, 1) := by decide +kernel
theorem dX3_sleep_2 : decode cX3_sleep 2 = .ok (.getfield 135, 3) := by decide +kernel
theorem dX3_sleep_5 : decode cX3_sleep 5 = .ok (.lconst 1, 1) := by decide +kernel
theorem dX3_sleep_6 : decode cX3_sleep 6 = .ok (.ladd, 1) := by decide +kernel
theorem dX3_sleep_7 : decode cX3_sleep 7 = .ok (.putfield 135, 3) := by decide +kernel
theorem dX3_sleep_10 : decode cX3_sleep 10 = .ok (.aload_n 0, 1) := by decide +kernel
theorem dX3_sleep_11 : decode cX3_sleep 11 = .ok (.iconst 3, 1) := by decide +kernel
theorem dX3_sleep_12 : decode cX3_sleep 12 = .ok (.ldc2_w 34, 3) := by decide +kernel
theorem dX3_sleep_15 : decode cX3_sleep 15 = .ok (.invokevirtual 92, 3) := by decide +kernel
theorem dX3_sleep_18 : decode cX3_sleep 18 = .ok (.return_, 1) := by decide +kernel
set_option maxRecDepth 20000 in
theorem ggX3_check_X3_enter : GoodIn wsX3_check wsX3_enter := goodIn_r _ [8, 9, 10, 11, 12, 13, 14, 15, 16, 17, 18, 19, 20, 21, 22, 23, 24] (by decide +kernel) (by decide +kernel)
set_option maxRecDepth 20000 in
theorem gX3_check_X3_enter : GoodIn wsX3_check (wsV RX3 92 RX3 yX3_enter wsX3_enter) := goodIn_app (goodIn_of _ (by decide +kernel)) ggX3_check_X3_enter
theorem dX3_check_0 : decode cX3_check 0 = .ok (.aload_n 0, 1) := by decide +kernel
theorem dX3_check_1 : decode cX3_check 1 = .ok (.dup, 1) := by decide +kernel
theorem dX3_check_2 : decode cX3_check 2 = .ok (.getfield 138, 3) := by decide +kernel
theorem dX3_check_5 : decode cX3_check 5 = .ok (.lconst 1, 1) := by decide +kernel
theorem dX3_check_6 : decode cX3_check 6 = .ok (.ladd, 1) := by decide +kernel
theorem dX3_check_7 : decode cX3_check 7 = .ok (.putfield 138, 3) := by decide +kernel
theorem dX3_check_10 : decode cX3_check 10 = .ok (.aload_n 0, 1) := by decide +kernel
theorem dX3_check_11 : decode cX3_check 11 = .ok (.iconst 4, 1) := by decide +kernel
theorem dX3_check_12 : decode cX3_check 12 = .ok (.aload_n 0, 1) := by decide +kernel
theorem dX3_check_13 : decode cX3_check 13 = .ok (.getfield 102, 3) := by decide +kernel
theorem dX3_check_16 : decode cX3_check 16 = .ok (.ldc2_w 175, 3) := by decide +kernel
theorem dX3_check_19 : decode cX3_check 19 = .ok (.ladd, 1) := by decide +kernel
theorem dX3_check_20 : decode cX3_check 20 = .ok (.invokevirtual 92, 3) := by decide +kernel
theorem dX3_check_23 : decode cX3_check 23 = .ok (.return_, 1) := by decide +kernel
theorem dX3_enter_0 : decode cX3_enter 0 = .ok (.aload_n 0, 1) := by decide +kernel
theorem dX3_enter_1 : decode cX3_enter 1 = .ok (.iload_n 1, 1) := by decide +kernel
theorem dX3_enter_2 : decode cX3_enter 2 = .ok (.putfield 30, 3) := by decide +kernel
theorem dX3_enter_5 : decode cX3_enter 5 = .ok (.aload_n 0, 1) := by decide +kernel
theorem dX3_enter_6 : decode cX3_enter 6 = .ok (.lload_n 2, 1) := by decide +kernel
theorem dX3_enter_7 : decode cX3_enter 7 = .ok (.putfield 36, 3) := by decide +kernel
theorem dX3_enter_10 : decode cX3_enter 10 = .ok (.return_, 1) := by decide +kernel
theorem dX4_init_0 : decode cX4_init 0 = .ok (.aload_n 0, 1) := by decide +kernel
theorem dX4_init_1 : decode cX4_init 1 = .ok (.invokespecial 1, 3) := by decide +kernel
theorem dX4_init_4 : decode cX4_init 4 = .ok (.aload_n 0, 1) := by decide +kernel
theorem dX4_init_5 : decode cX4_init 5 = .ok (.sipush 128, 3) := by decide +kernel
theorem dX4_init_8 : decode cX4_init 8 = .ok (.newarray .byte, 2) := by decide +kernel
theorem dX4_init_10 : decode cX4_init 10 = .ok (.putfield 7, 3) := by decide +kernel
theorem dX4_init_13 : decode cX4_init 13 = .ok (.aload_n 0, 1) := by decide +kernel
theorem dX4_init_14 : decode cX4_init 14 = .ok (.sipush 256, 3) := by decide +kernel
theorem dX4_init_17 : decode cX4_init 17 = .ok (.newarray .byte, 2) := by decide +kernel
theorem dX4_init_19 : decode cX4_init 19 = .ok (.putfield 13, 3) := by decide +kernel
theorem dX4_init_22 : decode cX4_init 22 = .ok (.aload_n 0, 1) := by decide +kernel
theorem dX4_init_23 : decode cX4_init 23 = .ok (.bipush 16, 2) := by decide +kernel
theorem dX4_init_25 : decode cX4_init 25 = .ok (.newarray .int, 2) := by decide +kernel
theorem dX4_init_27 : decode cX4_init 27 = .ok (.putfield 16, 3) := by decide +kernel
theorem dX4_init_30 : decode cX4_init 30 = .ok (.aload_n 0, 1) := by decide +kernel
theorem dX4_init_31 : decode cX4_init 31 = .ok (.bipush 8, 2) := by decide +kernel
theorem dX4_init_33 : decode cX4_init 33 = .ok (.newarray .boolean, 2) := by decide +kernel
theorem dX4_init_35 : decode cX4_init 35 = .ok (.putfield 20, 3) := by decide +kernel
theorem dX4_init_38 : decode cX4_init 38 = .ok (.aload_n 0, 1) := by decide +kernel
theorem dX4_init_39 : decode cX4_init 39 = .ok (.bipush 17, 2) := by decide +kernel
theorem dX4_init_41 : decode cX4_init 41 = .ok (.newarray .boolean, 2) := by decide +kernel
theorem dX4_init_43 : decode cX4_init 43 = .ok (.putfield 24, 3) := by decide +kernel
theorem dX4_init_46 : decode cX4_init 46 = .ok (.aload_n 0, 1) := by decide +kernel
theorem dX4_init_47 : decode cX4_init 47 = .ok (.bipush 21, 2) := by decide +kernel
theorem dX4_init_49 : decode cX4_init 49 = .ok (.newarray .boolean, 2) := by decide +kernel
theorem dX4_init_51 : decode cX4_init 51 = .ok (.putfield 27, 3) := by decide +kernel
theorem dX4_init_54 : decode cX4_init 54 = .ok (.aload_n 0, 1) := by decide +kernel
theorem dX4_init_55 : decode cX4_init 55 = .ok (.bipush 21, 2) := by decide +kernel
theorem dX4_init_57 : decode cX4_init 57 = .ok (.newarray .int, 2) := by decide +kernel
theorem dX4_init_59 : decode cX4_init 59 = .ok (.putfield 30, 3) := by decide +kernel
theorem dX4_init_62 : decode cX4_init 62 = .ok (.aload_n 0, 1) := by decide +kernel
theorem dX4_init_63 : decode cX4_init 63 = .ok (.bipush 21, 2) := by decide +kernel
theorem dX4_init_65 : decode cX4_init 65 = .ok (.newarray .boolean, 2) := by decide +kernel
theorem dX4_init_67 : decode cX4_init 67 = .ok (.putfield 33, 3) := by decide +kernel
theorem dX4_init_70 : decode cX4_init 70 = .ok (.aload_n 0, 1) := by decide +kernel
theorem dX4_init_71 : decode cX4_init 71 = .ok (.bipush 40, 2) := by decide +kernel
theorem dX4_init_73 : decode cX4_init 73 = .ok (.newarray .int, 2) := by decide +kernel
theorem dX4_init_75 : decode cX4_init 75 = .ok (.putfield 36, 3) := by decide +kernel
theorem dX4_init_78 : decode cX4_init 78 = .ok (.return_, 1) := by decide +kernel
theorem dX4_thrown_0 : decode cX4_thrown 0 = .ok (.aload_n 0, 1) := by decide +kernel
theorem dX4_thrown_1 : decode cX4_thrown 1 = .ok (.getfield 39, 3) := by decide +kernel
theorem dX4_thrown_4 : decode cX4_thrown 4 = .ok (.ireturn, 1) := by decide +kernel
theorem dX4_user_0 : decode cX4_user 0 = .ok (.aload_n 0, 1) := by decide +kernel
theorem dX4_user_1 : decode cX4_user 1 = .ok (.iconst 0, 1) := by decide +kernel
theorem dX4_user_2 : decode cX4_user 2 = .ok (.putfield 39, 3) := by decide +kernel
theorem dX4_user_5 : decode cX4_user 5 = .ok (.iconst 0, 1) := by decide +kernel
theorem dX4_user_6 : decode cX4_user 6 = .ok (.istore_n 1, 1) := by decide +kernel
theorem dX4_user_7 : decode cX4_user 7 = .ok (.iconst 1, 1) := by decide +kernel
theorem dX4_user_8 : decode cX4_user 8 = .ok (.istore_n 2, 1) := by decide +kernel
theorem dX4_user_9 : decode cX4_user 9 = .ok (.iload_n 2, 1) := by decide +kernel
theorem dX4_user_10 : decode cX4_user 10 = .ok (.bipush 16, 2) := by decide +kernel
theorem dX4_user_12 : decode cX4_user 12 = .ok (.if_icmp .gt 26, 3) := by decide +kernel
theorem dX4_user_15 : decode cX4_user 15 = .ok (.aload_n 0, 1) := by decide +kernel
theorem dX4_user_16 : decode cX4_user 16 = .ok (.getfield 24, 3) := by decide +kernel
theorem dX4_user_19 : decode cX4_user 19 = .ok (.iload_n 2, 1) := by decide +kernel
theorem dX4_user_20 : decode cX4_user 20 = .ok (.baload, 1) := by decide +kernel
theorem dX4_user_21 : decode cX4_user 21 = .ok (.ifCond .eq 9, 3) := by decide +kernel
theorem dX4_user_24 : decode cX4_user 24 = .ok (.iload_n 1, 1) := by decide +kernel
theorem dX4_user_25 : decode cX4_user 25 = .ok (.iconst 1, 1) := by decide +kernel
theorem dX4_user_26 : decode cX4_user 26 = .ok (.iadd, 1) := by decide +kernel
theorem dX4_user_27 : decode cX4_user 27 = .ok (.goto 4, 3) := by decide +kernel
theorem dX4_user_30 : decode cX4_user 30 = .ok (.iload_n 1, 1) := by decide +kernel
theorem dX4_user_31 : decode cX4_user 31 = .ok (.istore_n 1, 1) := by decide +kernel
theorem dX4_user_32 : decode cX4_user 32 = .ok (.iinc 2 1, 3) := by decide +kernel
theorem dX4_user_35 : decode cX4_user 35 = .ok (.goto (-26), 3) := by decide +kernel
theorem dX4_user_38 : decode cX4_user 38 = .ok (.iload_n 1, 1) := by decide +kernel
theorem dX4_user_39 : decode cX4_user 39 = .ok (.ireturn, 1) := by decide +kernel
set_option maxRecDepth 20000 in
theorem ggX4_request_X4_user : GoodIn wsX4_request wsX4_user := goodIn_ca (goodIn_r _ [10, 1, 3, 11, 12, 13, 14, 15, 16, 17, 18, 19, 20, 21, 22, 23, 24, 25, 26, 27, 28, 29, 30, 31, 32, 33] (by decide +kernel) (by decide +kernel)) (goodIn_sub (fun _ h => List.mem_cons_of_mem _ (List.mem_append_right _ h)) (by decide +kernel))
set_option maxRecDepth 20000 in
theorem gX4_request_X4_user : GoodIn wsX4_request (wsV RX4 46 RX4 yX4_user wsX4_user) := goodIn_app (goodIn_of _ (by decide +kernel)) ggX4_request_X4_user
theorem dX4_request_0 : decode cX4_request 0 = .ok (.aload_n 0, 1) := by decide +kernel
theorem dX4_request_1 : decode cX4_request 1 = .ok (.iconst 0, 1) := by decide +kernel
theorem dX4_request_2 : decode cX4_request 2 = .ok (.putfield 39, 3) := by decide +kernel
theorem dX4_request_5 : decode cX4_request 5 = .ok (.iload_n 1, 1) := by decide +kernel
theorem dX4_request_6 : decode cX4_request 6 = .ok (.iconst 1, 1) := by decide +kernel
theorem dX4_request_7 : decode cX4_request 7 = .ok (.if_icmp .lt 9, 3) := by decide +kernel
theorem dX4_request_10 : decode cX4_request 10 = .ok (.iload_n 1, 1) := by decide +kernel
theorem dX4_request_11 : decode cX4_request 11 = .ok (.bipush 16, 2) := by decide +kernel
theorem dX4_request_13 : decode cX4_request 13 = .ok (.if_icmp .le 5, 3) := by decide +kernel
theorem dX4_request_16 : decode cX4_request 16 = .ok (.iconst (-1), 1) := by decide +kernel
theorem dX4_request_17 : decode cX4_request 17 = .ok (.ireturn, 1) := by decide +kernel
theorem dX4_request_18 : decode cX4_request 18 = .ok (.aload_n 0, 1) := by decide +kernel
theorem dX4_request_19 : decode cX4_request 19 = .ok (.getfield 43, 3) := by decide +kernel
theorem dX4_request_22 : decode cX4_request 22 = .ok (.ifCond .eq 19, 3) := by decide +kernel
theorem dX4_request_25 : decode cX4_request 25 = .ok (.aload_n 0, 1) := by decide +kernel
theorem dX4_request_26 : decode cX4_request 26 = .ok (.getfield 43, 3) := by decide +kernel
theorem dX4_request_29 : decode cX4_request 29 = .ok (.iconst 3, 1) := by decide +kernel
theorem dX4_request_30 : decode cX4_request 30 = .ok (.if_icmp .eq 11, 3) := by decide +kernel
theorem dX4_request_33 : decode cX4_request 33 = .ok (.aload_n 0, 1) := by decide +kernel
theorem dX4_request_34 : decode cX4_request 34 = .ok (.getfield 43, 3) := by decide +kernel
theorem dX4_request_37 : decode cX4_request 37 = .ok (.iconst 5, 1) := by decide +kernel
theorem dX4_request_38 : decode cX4_request 38 = .ok (.if_icmp .ne 6, 3) := by decide +kernel
theorem dX4_request_41 : decode cX4_request 41 = .ok (.bipush (-3), 2) := by decide +kernel
theorem dX4_request_43 : decode cX4_request 43 = .ok (.ireturn, 1) := by decide +kernel
theorem dX4_request_44 : decode cX4_request 44 = .ok (.aload_n 0, 1) := by decide +kernel
theorem dX4_request_45 : decode cX4_request 45 = .ok (.getfield 24, 3) := by decide +kernel
theorem dX4_request_48 : decode cX4_request 48 = .ok (.iload_n 1, 1) := by decide +kernel
theorem dX4_request_49 : decode cX4_request 49 = .ok (.baload, 1) := by decide +kernel
theorem dX4_request_50 : decode cX4_request 50 = .ok (.istore_n 3, 1) := by decide +kernel
theorem dX4_request_51 : decode cX4_request 51 = .ok (.aload_n 0, 1) := by decide +kernel
theorem dX4_request_52 : decode cX4_request 52 = .ok (.getfield 24, 3) := by decide +kernel
theorem dX4_request_55 : decode cX4_request 55 = .ok (.iload_n 1, 1) := by decide +kernel
theorem dX4_request_56 : decode cX4_request 56 = .ok (.iload_n 2, 1) := by decide +kernel
theorem dX4_request_57 : decode cX4_request 57 = .ok (.bastore, 1) := by decide +kernel
theorem dX4_request_58 : decode cX4_request 58 = .ok (.aload_n 0, 1) := by decide +kernel
theorem dX4_request_59 : decode cX4_request 59 = .ok (.invokevirtual 46, 3) := by decide +kernel
theorem dX4_request_62 : decode cX4_request 62 = .ok (.istore 4, 2) := by decide +kernel
theorem dX4_request_64 : decode cX4_request 64 = .ok (.iload_n 3, 1) := by decide +kernel
theorem dX4_request_65 : decode cX4_request 65 = .ok (.ifCond .eq 20, 3) := by decide +kernel
theorem dX4_request_68 : decode cX4_request 68 = .ok (.iload_n 2, 1) := by decide +kernel
theorem dX4_request_69 : decode cX4_request 69 = .ok (.ifCond .ne 16, 3) := by decide +kernel
theorem dX4_request_72 : decode cX4_request 72 = .ok (.iload 4, 2) := by decide +kernel
theorem dX4_request_74 : decode cX4_request 74 = .ok (.ifCond .ne 11, 3) := by decide +kernel
theorem dX4_request_77 : decode cX4_request 77 = .ok (.aload_n 0, 1) := by decide +kernel
theorem dX4_request_78 : decode cX4_request 78 = .ok (.aload_n 0, 1) := by decide +kernel
theorem dX4_request_79 : decode cX4_request 79 = .ok (.getfield 50, 3) := by decide +kernel
theorem dX4_request_82 : decode cX4_request 82 = .ok (.putfield 54, 3) := by decide +kernel
theorem dX4_request_85 : decode cX4_request 85 = .ok (.iload 4, 2) := by decide +kernel
theorem dX4_request_87 : decode cX4_request 87 = .ok (.ireturn, 1) := by decide +kernel
theorem dX4_run_0 : decode cX4_run 0 = .ok (.aload_n 0, 1) := by decide +kernel
theorem dX4_run_1 : decode cX4_run 1 = .ok (.iconst 1, 1) := by decide +kernel
theorem dX4_run_2 : decode cX4_run 2 = .ok (.putfield 43, 3) := by decide +kernel
theorem dX4_run_5 : decode cX4_run 5 = .ok (.aload_n 0, 1) := by decide +kernel
theorem dX4_run_6 : decode cX4_run 6 = .ok (.aload_n 0, 1) := by decide +kernel
theorem dX4_run_7 : decode cX4_run 7 = .ok (.getfield 50, 3) := by decide +kernel
theorem dX4_run_10 : decode cX4_run 10 = .ok (.putfield 54, 3) := by decide +kernel
theorem dX4_run_13 : decode cX4_run 13 = .ok (.return_, 1) := by decide +kernel
theorem dX4_sleep_0 : decode cX4_sleep 0 = .ok (.aload_n 0, 1) := by decide +kernel
theorem dX4_sleep_1 : decode cX4_sleep 1 = .ok (.iconst 3, 1) := by decide +kernel
theorem dX4_sleep_2 : decode cX4_sleep 2 = .ok (.putfield 43, 3) := by decide +kernel
theorem dX4_sleep_5 : decode cX4_sleep 5 = .ok (.aload_n 0, 1) := by decide +kernel
theorem dX4_sleep_6 : decode cX4_sleep 6 = .ok (.dup, 1) := by decide +kernel
theorem dX4_sleep_7 : decode cX4_sleep 7 = .ok (.getfield 57, 3) := by decide +kernel
theorem dX4_sleep_10 : decode cX4_sleep 10 = .ok (.lconst 1, 1) := by decide +kernel
theorem dX4_sleep_11 : decode cX4_sleep 11 = .ok (.ladd, 1) := by decide +kernel
theorem dX4_sleep_12 : decode cX4_sleep 12 = .ok (.putfield 57, 3) := by decide +kernel
theorem dX4_sleep_15 : decode cX4_sleep 15 = .ok (.return_, 1) := by decide +kernel
set_option maxRecDepth 20000 in
theorem ggX4_wake_X4_run : GoodIn wsX4_wake wsX4_run := goodIn_r _ [10, 2, 3, 11, 12, 13, 14, 15, 16, 17, 18, 19, 20, 21, 22, 23, 24, 25, 26, 27, 28, 29, 30, 31, 32, 33, 34] (by decide +kernel) (by decide +kernel)
set_option maxRecDepth 20000 in
theorem gX4_wake_X4_run : GoodIn wsX4_wake (wsV RX4 60 RX4 yX4_run wsX4_run) := goodIn_app (goodIn_of _ (by decide +kernel)) ggX4_wake_X4_run
theorem dX4_wake_0 : decode cX4_wake 0 = .ok (.aload_n 0, 1) := by decide +kernel
theorem dX4_wake_1 : decode cX4_wake 1 = .ok (.iconst 0, 1) := by decide +kernel
theorem dX4_wake_2 : decode cX4_wake 2 = .ok (.putfield 39, 3) := by decide +kernel
theorem dX4_wake_5 : decode cX4_wake 5 = .ok (.iload_n 1, 1) := by decide +kernel
theorem dX4_wake_6 : decode cX4_wake 6 = .ok (.iconst 1, 1) := by decide +kernel
theorem dX4_wake_7 : decode cX4_wake 7 = .ok (.if_icmp .lt 9, 3) := by decide +kernel
theorem dX4_wake_10 : decode cX4_wake 10 = .ok (.iload_n 1, 1) := by decide +kernel
theorem dX4_wake_11 : decode cX4_wake 11 = .ok (.bipush 8, 2) := by decide +kernel
theorem dX4_wake_13 : decode cX4_wake 13 = .ok (.if_icmp .le 5, 3) := by decide +kernel
theorem dX4_wake_16 : decode cX4_wake 16 = .ok (.iconst (-1), 1) := by decide +kernel
theorem dX4_wake_17 : decode cX4_wake 17 = .ok (.ireturn, 1) := by decide +kernel
theorem dX4_wake_18 : decode cX4_wake 18 = .ok (.aload_n 0, 1) := by decide +kernel
theorem dX4_wake_19 : decode cX4_wake 19 = .ok (.getfield 43, 3) := by decide +kernel
theorem dX4_wake_22 : decode cX4_wake 22 = .ok (.iconst 3, 1) := by decide +kernel
theorem dX4_wake_23 : decode cX4_wake 23 = .ok (.if_icmp .eq 11, 3) := by decide +kernel
theorem dX4_wake_26 : decode cX4_wake 26 = .ok (.aload_n 0, 1) := by decide +kernel
theorem dX4_wake_27 : decode cX4_wake 27 = .ok (.getfield 43, 3) := by decide +kernel
theorem dX4_wake_30 : decode cX4_wake 30 = .ok (.iconst 4, 1) := by decide +kernel
theorem dX4_wake_31 : decode cX4_wake 31 = .ok (.if_icmp .ne 14, 3) := by decide +kernel
theorem dX4_wake_34 : decode cX4_wake 34 = .ok (.iload_n 2, 1) := by decide +kernel
theorem dX4_wake_35 : decode cX4_wake 35 = .ok (.ifCond .eq 10, 3) := by decide +kernel
theorem dX4_wake_38 : decode cX4_wake 38 = .ok (.aload_n 0, 1) := by decide +kernel
theorem dX4_wake_39 : decode cX4_wake 39 = .ok (.invokevirtual 60, 3) := by decide +kernel
theorem dX4_wake_42 : decode cX4_wake 42 = .ok (.goto 34, 3) := by decide +kernel
theorem dX4_wake_45 : decode cX4_wake 45 = .ok (.aload_n 0, 1) := by decide +kernel
theorem dX4_wake_46 : decode cX4_wake 46 = .ok (.getfield 43, 3) := by decide +kernel
theorem dX4_wake_49 : decode cX4_wake 49 = .ok (.iconst 3, 1) := by decide +kernel
theorem dX4_wake_50 : decode cX4_wake 50 = .ok (.if_icmp .ne 26, 3) := by decide +kernel
theorem dX4_wake_53 : decode cX4_wake 53 = .ok (.aload_n 0, 1) := by decide +kernel
theorem dX4_wake_54 : decode cX4_wake 54 = .ok (.iconst 4, 1) := by decide +kernel
theorem dX4_wake_55 : decode cX4_wake 55 = .ok (.putfield 43, 3) := by decide +kernel
theorem dX4_wake_58 : decode cX4_wake 58 = .ok (.aload_n 0, 1) := by decide +kernel
theorem dX4_wake_59 : decode cX4_wake 59 = .ok (.aload_n 0, 1) := by decide +kernel
theorem dX4_wake_60 : decode cX4_wake 60 = .ok (.getfield 50, 3) := by decide +kernel
theorem dX4_wake_63 : decode cX4_wake 63 = .ok (.putfield 63, 3) := by decide +kernel
theorem dX4_wake_66 : decode cX4_wake 66 = .ok (.aload_n 0, 1) := by decide +kernel
theorem dX4_wake_67 : decode cX4_wake 67 = .ok (.dup, 1) := by decide +kernel
theorem dX4_wake_68 : decode cX4_wake 68 = .ok (.getfield 66, 3) := by decide +kernel
theorem dX4_wake_71 : decode cX4_wake 71 = .ok (.lconst 1, 1) := by decide +kernel
theorem dX4_wake_72 : decode cX4_wake 72 = .ok (.ladd, 1) := by decide +kernel
theorem dX4_wake_73 : decode cX4_wake 73 = .ok (.putfield 66, 3) := by decide +kernel
theorem dX4_wake_76 : decode cX4_wake 76 = .ok (.aload_n 0, 1) := by decide +kernel
theorem dX4_wake_77 : decode cX4_wake 77 = .ok (.getfield 43, 3) := by decide +kernel
theorem dX4_wake_80 : decode cX4_wake 80 = .ok (.ireturn, 1) := by decide +kernel
theorem dX4_keptCopy_0 : decode cX4_keptCopy 0 = .ok (.aload_n 0, 1) := by decide +kernel
theorem dX4_keptCopy_1 : decode cX4_keptCopy 1 = .ok (.getfield 16, 3) := by decide +kernel
theorem dX4_keptCopy_4 : decode cX4_keptCopy 4 = .ok (.iconst 2, 1) := by decide +kernel
theorem dX4_keptCopy_5 : decode cX4_keptCopy 5 = .ok (.iload_n 1, 1) := by decide +kernel
theorem dX4_keptCopy_6 : decode cX4_keptCopy 6 = .ok (.imul, 1) := by decide +kernel
theorem dX4_keptCopy_7 : decode cX4_keptCopy 7 = .ok (.iconst 1, 1) := by decide +kernel
theorem dX4_keptCopy_8 : decode cX4_keptCopy 8 = .ok (.iadd, 1) := by decide +kernel
theorem dX4_keptCopy_9 : decode cX4_keptCopy 9 = .ok (.iaload, 1) := by decide +kernel
theorem dX4_keptCopy_10 : decode cX4_keptCopy 10 = .ok (.aload_n 0, 1) := by decide +kernel
theorem dX4_keptCopy_11 : decode cX4_keptCopy 11 = .ok (.getfield 16, 3) := by decide +kernel
theorem dX4_keptCopy_14 : decode cX4_keptCopy 14 = .ok (.iconst 2, 1) := by decide +kernel
theorem dX4_keptCopy_15 : decode cX4_keptCopy 15 = .ok (.iload_n 1, 1) := by decide +kernel
theorem dX4_keptCopy_16 : decode cX4_keptCopy 16 = .ok (.imul, 1) := by decide +kernel
theorem dX4_keptCopy_17 : decode cX4_keptCopy 17 = .ok (.iaload, 1) := by decide +kernel
theorem dX4_keptCopy_18 : decode cX4_keptCopy 18 = .ok (.if_icmp .le 7, 3) := by decide +kernel
theorem dX4_keptCopy_21 : decode cX4_keptCopy 21 = .ok (.iconst 1, 1) := by decide +kernel
theorem dX4_keptCopy_22 : decode cX4_keptCopy 22 = .ok (.goto 4, 3) := by decide +kernel
theorem dX4_keptCopy_25 : decode cX4_keptCopy 25 = .ok (.iconst 0, 1) := by decide +kernel
theorem dX4_keptCopy_26 : decode cX4_keptCopy 26 = .ok (.ireturn, 1) := by decide +kernel
theorem dX4_firstChanged_0 : decode cX4_firstChanged 0 = .ok (.iconst 0, 1) := by decide +kernel
theorem dX4_firstChanged_1 : decode cX4_firstChanged 1 = .ok (.istore_n 1, 1) := by decide +kernel
theorem dX4_firstChanged_2 : decode cX4_firstChanged 2 = .ok (.iload_n 1, 1) := by decide +kernel
theorem dX4_firstChanged_3 : decode cX4_firstChanged 3 = .ok (.bipush 8, 2) := by decide +kernel
theorem dX4_firstChanged_5 : decode cX4_firstChanged 5 = .ok (.if_icmp .ge 18, 3) := by decide +kernel
theorem dX4_firstChanged_8 : decode cX4_firstChanged 8 = .ok (.aload_n 0, 1) := by decide +kernel
theorem dX4_firstChanged_9 : decode cX4_firstChanged 9 = .ok (.getfield 20, 3) := by decide +kernel
theorem dX4_firstChanged_12 : decode cX4_firstChanged 12 = .ok (.iload_n 1, 1) := by decide +kernel
theorem dX4_firstChanged_13 : decode cX4_firstChanged 13 = .ok (.baload, 1) := by decide +kernel
theorem dX4_firstChanged_14 : decode cX4_firstChanged 14 = .ok (.ifCond .ne 9, 3) := by decide +kernel
theorem dX4_firstChanged_17 : decode cX4_firstChanged 17 = .ok (.iinc 1 1, 3) := by decide +kernel
theorem dX4_firstChanged_20 : decode cX4_firstChanged 20 = .ok (.goto (-18), 3) := by decide +kernel
theorem dX4_firstChanged_23 : decode cX4_firstChanged 23 = .ok (.iload_n 1, 1) := by decide +kernel
theorem dX4_firstChanged_24 : decode cX4_firstChanged 24 = .ok (.ireturn, 1) := by decide +kernel
set_option maxRecDepth 20000 in
theorem ggX4_save_X4_firstChanged : GoodIn wsX4_save wsX4_firstChanged := goodIn_ca (goodIn_r _ [10, 11, 16, 17, 18, 19, 20, 21, 22, 23, 24, 25, 26, 27, 28, 29, 30, 31, 32, 33, 34, 35, 36, 37, 38] (by decide +kernel) (by decide +kernel)) (goodIn_sub (fun _ h => List.mem_cons_of_mem _ (List.mem_append_right _ h)) (by decide +kernel))
set_option maxRecDepth 20000 in
theorem gX4_save_X4_firstChanged : GoodIn wsX4_save (wsV RX4 69 RX4 yX4_firstChanged wsX4_firstChanged) := goodIn_app (goodIn_of _ (by decide +kernel)) ggX4_save_X4_firstChanged
set_option maxRecDepth 20000 in
theorem ggX4_save_X4_keptCopy : GoodIn wsX4_save wsX4_keptCopy := goodIn_ca (goodIn_r _ [15, 5, 16, 17, 18, 19, 20, 21, 22, 23, 24, 25, 26, 27, 28, 29, 30, 31, 32, 33, 34, 35, 36, 37, 38] (by decide +kernel) (by decide +kernel)) (goodIn_sub (fun _ h => List.mem_cons_of_mem _ (List.mem_append_right _ h)) (by decide +kernel))
set_option maxRecDepth 20000 in
theorem gX4_save_X4_keptCopy : GoodIn wsX4_save (wsV RX4 75 RX4 yX4_keptCopy wsX4_keptCopy) := goodIn_app (goodIn_of _ (by decide +kernel)) ggX4_save_X4_keptCopy
theorem dX4_save_0 : decode cX4_save 0 = .ok (.aload_n 0, 1) := by decide +kernel
theorem dX4_save_1 : decode cX4_save 1 = .ok (.iconst 2, 1) := by decide +kernel
theorem dX4_save_2 : decode cX4_save 2 = .ok (.putfield 43, 3) := by decide +kernel
theorem dX4_save_5 : decode cX4_save 5 = .ok (.aload_n 0, 1) := by decide +kernel
theorem dX4_save_6 : decode cX4_save 6 = .ok (.aload_n 0, 1) := by decide +kernel
theorem dX4_save_7 : decode cX4_save 7 = .ok (.getfield 50, 3) := by decide +kernel
theorem dX4_save_10 : decode cX4_save 10 = .ok (.putfield 63, 3) := by decide +kernel
theorem dX4_save_13 : decode cX4_save 13 = .ok (.aload_n 0, 1) := by decide +kernel
theorem dX4_save_14 : decode cX4_save 14 = .ok (.aload_n 0, 1) := by decide +kernel
theorem dX4_save_15 : decode cX4_save 15 = .ok (.invokevirtual 69, 3) := by decide +kernel
theorem dX4_save_18 : decode cX4_save 18 = .ok (.putfield 72, 3) := by decide +kernel
theorem dX4_save_21 : decode cX4_save 21 = .ok (.aload_n 0, 1) := by decide +kernel
theorem dX4_save_22 : decode cX4_save 22 = .ok (.getfield 16, 3) := by decide +kernel
theorem dX4_save_25 : decode cX4_save 25 = .ok (.iconst 2, 1) := by decide +kernel
theorem dX4_save_26 : decode cX4_save 26 = .ok (.aload_n 0, 1) := by decide +kernel
theorem dX4_save_27 : decode cX4_save 27 = .ok (.getfield 72, 3) := by decide +kernel
theorem dX4_save_30 : decode cX4_save 30 = .ok (.imul, 1) := by decide +kernel
theorem dX4_save_31 : decode cX4_save 31 = .ok (.iconst 1, 1) := by decide +kernel
theorem dX4_save_32 : decode cX4_save 32 = .ok (.iadd, 1) := by decide +kernel
theorem dX4_save_33 : decode cX4_save 33 = .ok (.aload_n 0, 1) := by decide +kernel
theorem dX4_save_34 : decode cX4_save 34 = .ok (.aload_n 0, 1) := by decide +kernel
theorem dX4_save_35 : decode cX4_save 35 = .ok (.getfield 72, 3) := by decide +kernel
theorem dX4_save_38 : decode cX4_save 38 = .ok (.invokevirtual 75, 3) := by decide +kernel
theorem dX4_save_41 : decode cX4_save 41 = .ok (.isub, 1) := by decide +kernel
theorem dX4_save_42 : decode cX4_save 42 = .ok (.iconst 0, 1) := by decide +kernel
theorem dX4_save_43 : decode cX4_save 43 = .ok (.iastore, 1) := by decide +kernel
theorem dX4_save_44 : decode cX4_save 44 = .ok (.return_, 1) := by decide +kernel
set_option maxRecDepth 20000 in
theorem ggX4_isSaved_X4_keptCopy : GoodIn wsX4_isSaved wsX4_keptCopy := goodIn_ca (goodIn_r _ [10, 4, 38, 39, 40, 41, 42, 43, 44, 45, 46, 47, 48, 49, 50, 51, 52, 53, 54, 55, 56, 57, 58, 59, 60] (by decide +kernel) (by decide +kernel)) (goodIn_sub (fun _ h => List.mem_cons_of_mem _ (List.mem_append_right _ h)) (by decide +kernel))
set_option maxRecDepth 20000 in
theorem gX4_isSaved_X4_keptCopy : GoodIn wsX4_isSaved (wsV RX4 75 RX4 yX4_keptCopy wsX4_keptCopy) := goodIn_app (goodIn_of _ (by decide +kernel)) ggX4_isSaved_X4_keptCopy
set_option maxRecDepth 20000 in
theorem ggX4_isSaved_X4_user : GoodIn wsX4_isSaved wsX4_user := goodIn_ca (goodIn_r _ [14, 15, 16, 38, 39, 40, 41, 42, 43, 44, 45, 46, 47, 48, 49, 50, 51, 52, 53, 54, 55, 56, 57, 58, 59, 60] (by decide +kernel) (by decide +kernel)) (goodIn_sub (fun _ h => List.mem_cons_of_mem _ (List.mem_append_right _ h)) (by decide +kernel))
set_option maxRecDepth 20000 in
theorem gX4_isSaved_X4_user : GoodIn wsX4_isSaved (wsV RX4 46 RX4 yX4_user wsX4_user) := goodIn_app (goodIn_of _ (by decide +kernel)) ggX4_isSaved_X4_user
set_option maxRecDepth 20000 in
theorem ggX4_isSaved_X4_run : GoodIn wsX4_isSaved wsX4_run := goodIn_r _ [20, 21, 22, 23, 38, 39, 40, 41, 42, 43, 44, 45, 46, 47, 48, 49, 50, 51, 52, 53, 54, 55, 56, 57, 58, 59, 60] (by decide +kernel) (by decide +kernel)
set_option maxRecDepth 20000 in
theorem gX4_isSaved_X4_run : GoodIn wsX4_isSaved (wsV RX4 60 RX4 yX4_run wsX4_run) := goodIn_app (goodIn_of _ (by decide +kernel)) ggX4_isSaved_X4_run
set_option maxRecDepth 20000 in
theorem ggX4_isSaved_X4_firstChanged : GoodIn wsX4_isSaved wsX4_firstChanged := goodIn_ca (goodIn_r _ [27, 5, 38, 39, 40, 41, 42, 43, 44, 45, 46, 47, 48, 49, 50, 51, 52, 53, 54, 55, 56, 57, 58, 59, 60] (by decide +kernel) (by decide +kernel)) (goodIn_sub (fun _ h => List.mem_cons_of_mem _ (List.mem_append_right _ h)) (by decide +kernel))
set_option maxRecDepth 20000 in
theorem gX4_isSaved_X4_firstChanged : GoodIn wsX4_isSaved (wsV RX4 69 RX4 yX4_firstChanged wsX4_firstChanged) := goodIn_app (goodIn_of _ (by decide +kernel)) ggX4_isSaved_X4_firstChanged
set_option maxRecDepth 20000 in
theorem ggX4_isSaved_X4_sleep : GoodIn wsX4_isSaved wsX4_sleep := goodIn_r _ [31, 21, 32, 38, 39, 40, 41, 42, 43, 44, 45, 46, 47, 48, 49, 50, 51, 52, 53, 54, 55, 56, 57, 58, 59, 60] (by decide +kernel) (by decide +kernel)
set_option maxRecDepth 20000 in
theorem gX4_isSaved_X4_sleep : GoodIn wsX4_isSaved (wsV RX4 79 RX4 yX4_sleep wsX4_sleep) := goodIn_app (goodIn_of _ (by decide +kernel)) ggX4_isSaved_X4_sleep
set_option maxRecDepth 20000 in
theorem ggX4_isSaved_X4_save : GoodIn wsX4_isSaved wsX4_save := goodIn_ca (goodIn_r _ [36, 21, 22, 37, 1, 4, 24, 25, 26, 9, 27, 5, 6, 7, 8, 10, 38, 39, 40, 41, 42, 43, 44, 45, 46, 47, 48, 49, 50, 51, 52, 53, 54, 55, 56, 57, 58, 59, 60] (by decide +kernel) (by decide +kernel)) (goodIn_sub (fun _ h => List.mem_cons_of_mem _ (List.mem_append_right _ h)) (by decide +kernel))
set_option maxRecDepth 20000 in
theorem gX4_isSaved_X4_save : GoodIn wsX4_isSaved (wsV RX4 82 RX4 yX4_save wsX4_save) := goodIn_app (goodIn_of _ (by decide +kernel)) ggX4_isSaved_X4_save
theorem dX4_isSaved_0 : decode cX4_isSaved 0 = .ok (.aload_n 0, 1) := by decide +kernel
theorem dX4_isSaved_1 : decode cX4_isSaved 1 = .ok (.aload_n 0, 1) := by decide +kernel
theorem dX4_isSaved_2 : decode cX4_isSaved 2 = .ok (.getfield 72, 3) := by decide +kernel
theorem dX4_isSaved_5 : decode cX4_isSaved 5 = .ok (.invokevirtual 75, 3) := by decide +kernel
theorem dX4_isSaved_8 : decode cX4_isSaved 8 = .ok (.istore_n 1, 1) := by decide +kernel
theorem dX4_isSaved_9 : decode cX4_isSaved 9 = .ok (.iconst 1, 1) := by decide +kernel
theorem dX4_isSaved_10 : decode cX4_isSaved 10 = .ok (.iload_n 1, 1) := by decide +kernel
theorem dX4_isSaved_11 : decode cX4_isSaved 11 = .ok (.isub, 1) := by decide +kernel
theorem dX4_isSaved_12 : decode cX4_isSaved 12 = .ok (.istore_n 2, 1) := by decide +kernel
theorem dX4_isSaved_13 : decode cX4_isSaved 13 = .ok (.iconst 0, 1) := by decide +kernel
theorem dX4_isSaved_14 : decode cX4_isSaved 14 = .ok (.istore_n 3, 1) := by decide +kernel
theorem dX4_isSaved_15 : decode cX4_isSaved 15 = .ok (.iload_n 3, 1) := by decide +kernel
theorem dX4_isSaved_16 : decode cX4_isSaved 16 = .ok (.bipush 16, 2) := by decide +kernel
theorem dX4_isSaved_18 : decode cX4_isSaved 18 = .ok (.if_icmp .ge 41, 3) := by decide +kernel
theorem dX4_isSaved_21 : decode cX4_isSaved 21 = .ok (.aload_n 0, 1) := by decide +kernel
theorem dX4_isSaved_22 : decode cX4_isSaved 22 = .ok (.getfield 13, 3) := by decide +kernel
theorem dX4_isSaved_25 : decode cX4_isSaved 25 = .ok (.bipush 16, 2) := by decide +kernel
theorem dX4_isSaved_27 : decode cX4_isSaved 27 = .ok (.iconst 2, 1) := by decide +kernel
theorem dX4_isSaved_28 : decode cX4_isSaved 28 = .ok (.aload_n 0, 1) := by decide +kernel
theorem dX4_isSaved_29 : decode cX4_isSaved 29 = .ok (.getfield 72, 3) := by decide +kernel
theorem dX4_isSaved_32 : decode cX4_isSaved 32 = .ok (.imul, 1) := by decide +kernel
theorem dX4_isSaved_33 : decode cX4_isSaved 33 = .ok (.iload_n 2, 1) := by decide +kernel
theorem dX4_isSaved_34 : decode cX4_isSaved 34 = .ok (.iadd, 1) := by decide +kernel
theorem dX4_isSaved_35 : decode cX4_isSaved 35 = .ok (.imul, 1) := by decide +kernel
theorem dX4_isSaved_36 : decode cX4_isSaved 36 = .ok (.iload_n 3, 1) := by decide +kernel
theorem dX4_isSaved_37 : decode cX4_isSaved 37 = .ok (.iadd, 1) := by decide +kernel
theorem dX4_isSaved_38 : decode cX4_isSaved 38 = .ok (.aload_n 0, 1) := by decide +kernel
theorem dX4_isSaved_39 : decode cX4_isSaved 39 = .ok (.getfield 7, 3) := by decide +kernel
theorem dX4_isSaved_42 : decode cX4_isSaved 42 = .ok (.bipush 16, 2) := by decide +kernel
theorem dX4_isSaved_44 : decode cX4_isSaved 44 = .ok (.aload_n 0, 1) := by decide +kernel
theorem dX4_isSaved_45 : decode cX4_isSaved 45 = .ok (.getfield 72, 3) := by decide +kernel
theorem dX4_isSaved_48 : decode cX4_isSaved 48 = .ok (.imul, 1) := by decide +kernel
theorem dX4_isSaved_49 : decode cX4_isSaved 49 = .ok (.iload_n 3, 1) := by decide +kernel
theorem dX4_isSaved_50 : decode cX4_isSaved 50 = .ok (.iadd, 1) := by decide +kernel
theorem dX4_isSaved_51 : decode cX4_isSaved 51 = .ok (.baload, 1) := by decide +kernel
theorem dX4_isSaved_52 : decode cX4_isSaved 52 = .ok (.bastore, 1) := by decide +kernel
theorem dX4_isSaved_53 : decode cX4_isSaved 53 = .ok (.iinc 3 1, 3) := by decide +kernel
theorem dX4_isSaved_56 : decode cX4_isSaved 56 = .ok (.goto (-41), 3) := by decide +kernel
theorem dX4_isSaved_59 : decode cX4_isSaved 59 = .ok (.aload_n 0, 1) := by decide +kernel
theorem dX4_isSaved_60 : decode cX4_isSaved 60 = .ok (.getfield 16, 3) := by decide +kernel
theorem dX4_isSaved_63 : decode cX4_isSaved 63 = .ok (.iconst 2, 1) := by decide +kernel
theorem dX4_isSaved_64 : decode cX4_isSaved 64 = .ok (.aload_n 0, 1) := by decide +kernel
theorem dX4_isSaved_65 : decode cX4_isSaved 65 = .ok (.getfield 72, 3) := by decide +kernel
theorem dX4_isSaved_68 : decode cX4_isSaved 68 = .ok (.imul, 1) := by decide +kernel
theorem dX4_isSaved_69 : decode cX4_isSaved 69 = .ok (.iload_n 2, 1) := by decide +kernel
theorem dX4_isSaved_70 : decode cX4_isSaved 70 = .ok (.iadd, 1) := by decide +kernel
theorem dX4_isSaved_71 : decode cX4_isSaved 71 = .ok (.aload_n 0, 1) := by decide +kernel
theorem dX4_isSaved_72 : decode cX4_isSaved 72 = .ok (.getfield 16, 3) := by decide +kernel
theorem dX4_isSaved_75 : decode cX4_isSaved 75 = .ok (.iconst 2, 1) := by decide +kernel
theorem dX4_isSaved_76 : decode cX4_isSaved 76 = .ok (.aload_n 0, 1) := by decide +kernel
theorem dX4_isSaved_77 : decode cX4_isSaved 77 = .ok (.getfield 72, 3) := by decide +kernel
theorem dX4_isSaved_80 : decode cX4_isSaved 80 = .ok (.imul, 1) := by decide +kernel
theorem dX4_isSaved_81 : decode cX4_isSaved 81 = .ok (.iload_n 1, 1) := by decide +kernel
theorem dX4_isSaved_82 : decode cX4_isSaved 82 = .ok (.iadd, 1) := by decide +kernel
theorem dX4_isSaved_83 : decode cX4_isSaved 83 = .ok (.iaload, 1) := by decide +kernel
theorem dX4_isSaved_84 : decode cX4_isSaved 84 = .ok (.iconst 1, 1) := by decide +kernel
theorem dX4_isSaved_85 : decode cX4_isSaved 85 = .ok (.iadd, 1) := by decide +kernel
theorem dX4_isSaved_86 : decode cX4_isSaved 86 = .ok (.iastore, 1) := by decide +kernel
theorem dX4_isSaved_87 : decode cX4_isSaved 87 = .ok (.aload_n 0, 1) := by decide +kernel
theorem dX4_isSaved_88 : decode cX4_isSaved 88 = .ok (.getfield 20, 3) := by decide +kernel
theorem dX4_isSaved_91 : decode cX4_isSaved 91 = .ok (.aload_n 0, 1) := by decide +kernel
theorem dX4_isSaved_92 : decode cX4_isSaved 92 = .ok (.getfield 72, 3) := by decide +kernel
theorem dX4_isSaved_95 : decode cX4_isSaved 95 = .ok (.iconst 0, 1) := by decide +kernel
theorem dX4_isSaved_96 : decode cX4_isSaved 96 = .ok (.bastore, 1) := by decide +kernel
theorem dX4_isSaved_97 : decode cX4_isSaved 97 = .ok (.aload_n 0, 1) := by decide +kernel
theorem dX4_isSaved_98 : decode cX4_isSaved 98 = .ok (.invokevirtual 46, 3) := by decide +kernel
theorem dX4_isSaved_101 : decode cX4_isSaved 101 = .ok (.ifCond .le 10, 3) := by decide +kernel
theorem dX4_isSaved_104 : decode cX4_isSaved 104 = .ok (.aload_n 0, 1) := by decide +kernel
theorem dX4_isSaved_105 : decode cX4_isSaved 105 = .ok (.invokevirtual 60, 3) := by decide +kernel
theorem dX4_isSaved_108 : decode cX4_isSaved 108 = .ok (.goto 23, 3) := by decide +kernel
theorem dX4_isSaved_111 : decode cX4_isSaved 111 = .ok (.aload_n 0, 1) := by decide +kernel
theorem dX4_isSaved_112 : decode cX4_isSaved 112 = .ok (.invokevirtual 69, 3) := by decide +kernel
theorem dX4_isSaved_115 : decode cX4_isSaved 115 = .ok (.bipush 8, 2) := by decide +kernel
theorem dX4_isSaved_117 : decode cX4_isSaved 117 = .ok (.if_icmp .ne 10, 3) := by decide +kernel
theorem dX4_isSaved_120 : decode cX4_isSaved 120 = .ok (.aload_n 0, 1) := by decide +kernel
theorem dX4_isSaved_121 : decode cX4_isSaved 121 = .ok (.invokevirtual 79, 3) := by decide +kernel
theorem dX4_isSaved_124 : decode cX4_isSaved 124 = .ok (.goto 7, 3) := by decide +kernel
theorem dX4_isSaved_127 : decode cX4_isSaved 127 = .ok (.aload_n 0, 1) := by decide +kernel
theorem dX4_isSaved_128 : decode cX4_isSaved 128 = .ok (.invokevirtual 82, 3) := by decide +kernel
theorem dX4_isSaved_131 : decode cX4_isSaved 131 = .ok (.return_, 1) := by decide +kernel
set_option maxRecDepth 20000 in
theorem ggX4_due_X4_user : GoodIn wsX4_due wsX4_user := goodIn_ca (goodIn_r _ [12, 13, 14, 15, 16, 17, 18, 19, 20, 21, 22, 23, 24, 25, 26, 27, 28, 29, 30, 31, 32, 33, 34, 35, 36, 37] (by decide +kernel) (by decide +kernel)) (goodIn_sub (fun _ h => List.mem_cons_of_mem _ (List.mem_append_right _ h)) (by decide +kernel))
set_option maxRecDepth 20000 in
theorem gX4_due_X4_user : GoodIn wsX4_due (wsV RX4 46 RX4 yX4_user wsX4_user) := goodIn_app (goodIn_of _ (by decide +kernel)) ggX4_due_X4_user
theorem dX4_due_0 : decode cX4_due 0 = .ok (.aload_n 0, 1) := by decide +kernel
theorem dX4_due_1 : decode cX4_due 1 = .ok (.getfield 43, 3) := by decide +kernel
theorem dX4_due_4 : decode cX4_due 4 = .ok (.iconst 1, 1) := by decide +kernel
theorem dX4_due_5 : decode cX4_due 5 = .ok (.if_icmp .ne 25, 3) := by decide +kernel
theorem dX4_due_8 : decode cX4_due 8 = .ok (.aload_n 0, 1) := by decide +kernel
theorem dX4_due_9 : decode cX4_due 9 = .ok (.invokevirtual 46, 3) := by decide +kernel
theorem dX4_due_12 : decode cX4_due 12 = .ok (.ifCond .ne 14, 3) := by decide +kernel
theorem dX4_due_15 : decode cX4_due 15 = .ok (.aload_n 0, 1) := by decide +kernel
theorem dX4_due_16 : decode cX4_due 16 = .ok (.getfield 54, 3) := by decide +kernel
theorem dX4_due_19 : decode cX4_due 19 = .ok (.ldc2_w 85, 3) := by decide +kernel
theorem dX4_due_22 : decode cX4_due 22 = .ok (.ladd, 1) := by decide +kernel
theorem dX4_due_23 : decode cX4_due 23 = .ok (.goto 6, 3) := by decide +kernel
theorem dX4_due_26 : decode cX4_due 26 = .ok (.ldc2_w 87, 3) := by decide +kernel
theorem dX4_due_29 : decode cX4_due 29 = .ok (.lreturn, 1) := by decide +kernel
theorem dX4_due_30 : decode cX4_due 30 = .ok (.aload_n 0, 1) := by decide +kernel
theorem dX4_due_31 : decode cX4_due 31 = .ok (.getfield 43, 3) := by decide +kernel
theorem dX4_due_34 : decode cX4_due 34 = .ok (.iconst 2, 1) := by decide +kernel
theorem dX4_due_35 : decode cX4_due 35 = .ok (.if_icmp .ne 14, 3) := by decide +kernel
theorem dX4_due_38 : decode cX4_due 38 = .ok (.aload_n 0, 1) := by decide +kernel
theorem dX4_due_39 : decode cX4_due 39 = .ok (.getfield 63, 3) := by decide +kernel
theorem dX4_due_42 : decode cX4_due 42 = .ok (.ldc2_w 89, 3) := by decide +kernel
theorem dX4_due_45 : decode cX4_due 45 = .ok (.ladd, 1) := by decide +kernel
theorem dX4_due_46 : decode cX4_due 46 = .ok (.goto 25, 3) := by decide +kernel
theorem dX4_due_49 : decode cX4_due 49 = .ok (.aload_n 0, 1) := by decide +kernel
theorem dX4_due_50 : decode cX4_due 50 = .ok (.getfield 43, 3) := by decide +kernel
theorem dX4_due_53 : decode cX4_due 53 = .ok (.iconst 4, 1) := by decide +kernel
