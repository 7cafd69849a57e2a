theorem dX4_request_55 : decode cX4_request 55 = .ok (.iload_n 1, 1) := by decide +kernel
theorem dX4_request_56 : decode cX4_request 56 = .ok (.iload_n 2, 1) := by decide +kernel
theorem dX4_request_57 : decode cX4_request 57 = .ok (.bastore, 1) := by decide +kernel
theorem dX4_request_58 : decode cX4_request 58 = .ok (.aload_n 0, 1) := by decide +kernel
theorem dX4_request_59 : decode cX4_request 59 = .ok (.invokevirtual 46, 3) := by decide +kernel
theorem dX4_request_62 : decode cX4_request 62 = .ok (.istore 4, 2) := by decide +kernel
theorem dX4_request_64 : decode cX4_request 64 = .ok (.iload_n 3, 1) := by decide +kernel
theorem dX4_request_65 : decode cX4_request 65 = .ok (.ifCond .eq 20, 3) := by decide +kernel
theorem dX4_request_68 : decode cX4_request 68 = .ok (.iload_n 2, 1) := by decide +kernel
theorem dX4_request_69 : decode cX4_request 69 = .ok (.ifCond .ne 16, 3) := by decide +kernel
theorem dX4_request_72 : decode cX4_request 72 = .ok (.iload 4, 2) := by decide +kernel
theorem dX4_request_74 : decode cX4_request 74 = .ok (.ifCond .ne 11, 3) := by decide +kernel
theorem dX4_request_77 : decode cX4_request 77 = .ok (.aload_n 0, 1) := by decide +kernel
theorem dX4_request_78 : decode cX4_request 78 = .ok (.aload_n 0, 1) := by decide +kernel
theorem dX4_request_79 : decode cX4_request 79 = .ok (.getfield 50, 3) := by decide +kernel
theorem dX4_request_82 : decode cX4_request 82 = .ok (.putfield 54, 3) := by decide +kernel
theorem dX4_request_85 : decode cX4_request 85 = .ok (.iload 4, 2) := by decide +kernel
theorem dX4_request_87 : decode cX4_request 87 = .ok (.ireturn, 1) := by decide +kernel
theorem dX4_run_0 : decode cX4_run 0 = .ok (.aload_n 0, 1) := by decide +kernel
theorem dX4_run_1 : decode cX4_run 1 = .ok (.iconst 1, 1) := by decide +kernel
theorem dX4_run_2 : decode cX4_run 2 = .ok (.putfield 43, 3) := by decide +kernel
theorem dX4_run_5 : decode cX4_run 5 = .ok (.aload_n 0, 1) := by decide +kernel
theorem dX4_run_6 : decode cX4_run 6 = .ok (.aload_n 0, 1) := by decide +kernel
theorem dX4_run_7 : decode cX4_run 7 = .ok (.getfield 50, 3) := by decide +kernel
theorem dX4_run_10 : decode cX4_run 10 = .ok (.putfield 54, 3) := by decide +kernel
theorem dX4_run_13 : decode cX4_run 13 = .ok (.return_, 1) := by decide +kernel
theorem dX4_sleep_0 : decode cX4_sleep 0 = .ok (.aload_n 0, 1) := by decide +kernel
theorem dX4_sleep_1 : decode cX4_sleep 1 = .ok (.iconst 3, 1) := by decide +kernel
theorem dX4_sleep_2 : decode cX4_sleep 2 = .ok (.putfield 43, 3) := by decide +kernel
theorem dX4_sleep_5 : decode cX4_sleep 5 = .ok (.aload_n 0, 1) := by decide +kernel
theorem dX4_sleep_6 : decode cX4_sleep 6 = .ok (.dup, 1) := by decide +kernel
theorem dX4_sleep_7 : decode cX4_sleep 7 = .ok (.getfield 57, 3) := by decide +kernel
theorem dX4_sleep_10 : decode cX4_sleep 10 = .ok (.lconst 1, 1) := by decide +kernel
theorem dX4_sleep_11 : decode cX4_sleep 11 = .ok (.ladd, 1) := by decide +kernel
theorem dX4_sleep_12 : decode cX4_sleep 12 = .ok (.putfield 57, 3) := by decide +kernel
theorem dX4_sleep_15 : decode cX4_sleep 15 = .ok (.return_, 1) := by decide +kernel
set_option maxRecDepth 20000 in
theorem ggX4_wake_X4_run : GoodIn wsX4_wake wsX4_run := goodIn_r _ [10, 2, 3, 11, 12, 13, 14, 15, 16, 17, 18, 19, 20, 21, 22, 23, 24, 25, 26, 27, 28, 29, 30, 31, 32, 33, 34] (by decide +kernel) (by decide +kernel)
set_option maxRecDepth 20000 in
theorem gX4_wake_X4_run : GoodIn wsX4_wake (wsV RX4 60 RX4 yX4_run wsX4_run) := goodIn_app (goodIn_of _ (by decide +kernel)) ggX4_wake_X4_run
theorem dX4_wake_0 : decode cX4_wake 0 = .ok (.aload_n 0, 1) := by decide +kernel
theorem dX4_wake_1 : decode cX4_wake 1 = .ok (.iconst 0, 1) := by decide +kernel
theorem dX4_wake_2 : decode cX4_wake 2 = .ok (.putfield 39, 3) := by decide +kernel
theorem dX4_wake_5 : decode cX4_wake 5 = .ok (.iload_n 1, 1) := by decide +kernel
theorem dX4_wake_6 : decode cX4_wake 6 = .ok (.iconst 1, 1) := by decide +kernel
theorem dX4_wake_7 : decode cX4_wake 7 = .ok (.if_icmp .lt 9, 3) := by decide +kernel
theorem dX4_wake_10 : decode cX4_wake 10 = .ok (.iload_n 1, 1) := by decide +kernel
theorem dX4_wake_11 : decode cX4_wake 11 = .ok (.bipush 8, 2) := by decide +kernel
theorem dX4_wake_13 : decode cX4_wake 13 = .ok (.if_icmp .le 5, 3) := by decide +kernel
theorem dX4_wake_16 : decode cX4_wake 16 = .ok (.iconst (-1), 1) := by decide +kernel
theorem dX4_wake_17 : decode cX4_wake 17 = .ok (.ireturn, 1) := by decide +kernel
theorem dX4_wake_18 : decode cX4_wake 18 = .ok (.aload_n 0, 1) := by decide +kernel
theorem dX4_wake_19 : decode cX4_wake 19 = .ok (.getfield 43, 3) := by decide +kernel
theorem dX4_wake_22 : decode cX4_wake 22 = .ok (.iconst 3, 1) := by decide +kernel
theorem dX4_wake_23 : decode cX4_wake 23 = .ok (.if_icmp .eq 11, 3) := by decide +kernel
theorem dX4_wake_26 : decode cX4_wake 26 = .ok (.aload_n 0, 1) := by decide +kernel
theorem dX4_wake_27 : decode cX4_wake 27 = .ok (.getfield 43, 3) := by decide +kernel
theorem dX4_wake_30 : decode cX4_wake 30 = .ok (.iconst 4, 1) := by decide +kernel
theorem dX4_wake_31 : decode cX4_wake 31 = .ok (.if_icmp .ne 14, 3) := by decide +kernel
theorem dX4_wake_34 : decode cX4_wake 34 = .ok (.iload_n 2, 1) := by decide +kernel
theorem dX4_wake_35 : decode cX4_wake 35 = .ok (.ifCond .eq 10, 3) := by decide +kernel
theorem dX4_wake_38 : decode cX4_wake 38 = .ok (.aload_n 0, 1) := by decide +kernel
theorem dX4_wake_39 : decode cX4_wake 39 = .ok (.invokevirtual 60, 3) := by decide +kernel
theorem dX4_wake_42 : decode cX4_wake 42 = .ok (.goto 34, 3) := by decide +kernel
theorem dX4_wake_45 : decode cX4_wake 45 = .ok (.aload_n 0, 1) := by decide +kernel
theorem dX4_wake_46 : decode cX4_wake 46 = .ok (.getfield 43, 3) := by decide +kernel
theorem dX4_wake_49 : decode cX4_wake 49 = .ok (.iconst 3, 1) := by decide +kernel
theorem dX4_wake_50 : decode cX4_wake 50 = .ok (.if_icmp .ne 26, 3) := by decide +kernel
theorem dX4_wake_53 : decode cX4_wake 53 = .ok (.aload_n 0, 1) := by decide +kernel
theorem dX4_wake_54 : decode cX4_wake 54 = .ok (.iconst 4, 1) := by decide +kernel
theorem dX4_wake_55 : decode cX4_wake 55 = .ok (.putfield 43, 3) := by decide +kernel
theorem dX4_wake_58 : decode cX4_wake 58 = .ok (.aload_n 0, 1) := by decide +kernel
theorem dX4_wake_59 : decode cX4_wake 59 = .ok (.aload_n 0, 1) := by decide +kernel
theorem dX4_wake_60 : decode cX4_wake 60 = .ok (.getfield 50, 3) := by decide +kernel
theorem dX4_wake_63 : decode cX4_wake 63 = .ok (.putfield 63, 3) := by decide +kernel
theorem dX4_wake_66 : decode cX4_wake 66 = .ok (.aload_n 0, 1) := by decide +kernel
theorem dX4_wake_67 : decode cX4_wake 67 = .ok (.dup, 1) := by decide +kernel
theorem dX4_wake_68 : decode cX4_wake 68 = .ok (.getfield 66, 3) := by decide +kernel
theorem dX4_wake_71 : decode cX4_wake 71 = .ok (.lconst 1, 1) := by decide +kernel
theorem dX4_wake_72 : decode cX4_wake 72 = .ok (.ladd, 1) := by decide +kernel
theorem dX4_wake_73 : decode cX4_wake 73 = .ok (.putfield 66, 3) := by decide +kernel
theorem dX4_wake_76 : decode cX4_wake 76 = .ok (.aload_n 0, 1) := by decide +kernel
theorem dX4_wake_77 : decode cX4_wake 77 = .ok (.getfield 43, 3) := by decide +kernel
theorem dX4_wake_80 : decode cX4_wake 80 = .ok (.ireturn, 1) := by decide +kernel
theorem dX4_keptCopy_0 : decode cX4_keptCopy 0 = .ok (.aload_n 0, 1) := by decide +kernel
theorem dX4_keptCopy_1 : decode cX4_keptCopy 1 = .ok (.getfield 16, 3) := by decide +kernel
theorem dX4_keptCopy_4 : decode cX4_keptCopy 4 = .ok (.iconst 2, 1) := by decide +kernel
theorem dX4_keptCopy_5 : decode cX4_keptCopy 5 = .ok (.iload_n 1, 1) := by decide +kernel
theorem dX4_keptCopy_6 : decode cX4_keptCopy 6 = .ok (.imul, 1) := by decide +kernel
theorem dX4_keptCopy_7 : decode cX4_keptCopy 7 = .ok (.iconst 1, 1) := by decide +kernel
theorem dX4_keptCopy_8 : decode cX4_keptCopy 8 = .ok (.iadd, 1) := by decide +kernel
theorem dX4_keptCopy_9 : decode cX4_keptCopy 9 = .ok (.iaload, 1) := by decide +kernel
theorem dX4_keptCopy_10 : decode cX4_keptCopy 10 = .ok (.aload_n 0, 1) := by decide +kernel
theorem dX4_keptCopy_11 : decode cX4_keptCopy 11 = .ok (.getfield 16, 3) := by decide +kernel
theorem dX4_keptCopy_14 : decode cX4_keptCopy 14 = .ok (.iconst 2, 1) := by decide +kernel
theorem dX4_keptCopy_15 : decode cX4_keptCopy 15 = .ok (.iload_n 1, 1) := by decide +kernel
theorem dX4_keptCopy_16 : decode cX4_keptCopy 16 = .ok (.imul, 1) := by decide +kernel
theorem dX4_keptCopy_17 : decode cX4_keptCopy 17 = .ok (.iaload, 1) := by decide +kernel
theorem dX4_keptCopy_18 : decode cX4_keptCopy 18 = .ok (.if_icmp .le 7, 3) := by decide +kernel
theorem dX4_keptCopy_21 : decode cX4_keptCopy 21 = .ok (.iconst 1, 1) := by decide +kernel
theorem dX4_keptCopy_22 : decode cX4_keptCopy 22 = .ok (.goto 4, 3) := by decide +kernel
theorem dX4_keptCopy_25 : decode cX4_keptCopy 25 = .ok (.iconst 0, 1) := by decide +kernel
theorem dX4_keptCopy_26 : decode cX4_keptCopy 26 = .ok (.ireturn, 1) := by decide +kernel
theorem dX4_firstChanged_0 : decode cX4_firstChanged 0 = .ok (.iconst 0, 1) := by decide +kernel
theorem dX4_firstChanged_1 : decode cX4_firstChanged 1 = .ok (.istore_n 1, 1) := by decide +kernel
theorem dX4_firstChanged_2 : decode cX4_firstChanged 2 = .ok (.iload_n 1, 1) := by decide +kernel
theorem dX4_firstChanged_3 : decode cX4_firstChanged 3 = .ok (.bipush 8, 2) := by decide +kernel
theorem dX4_firstChanged_5 : decode cX4_firstChanged 5 = .ok (.if_icmp .ge 18, 3) := by decide +kernel
theorem dX4_firstChanged_8 : decode cX4_firstChanged 8 = .ok (.aload_n 0, 1) := by decide +kernel
theorem dX4_firstChanged_9 : decode cX4_firstChanged 9 = .ok (.getfield 20, 3) := by decide +kernel
theorem dX4_firstChanged_12 : decode cX4_firstChanged 12 = .ok (.iload_n 1, 1) := by decide +kernel
theorem dX4_firstChanged_13 : decode cX4_firstChanged 13 = .ok (.baload, 1) := by decide +kernel
theorem dX4_firstChanged_14 : decode cX4_firstChanged 14 = .ok (.ifCond .ne 9, 3) := by decide +kernel
theorem dX4_firstChanged_17 : decode cX4_firstChanged 17 = .ok (.iinc 1 1, 3) := by decide +kernel
theorem dX4_firstChanged_20 : decode cX4_firstChanged 20 = .ok (.goto (-18), 3) := by decide +kernel
theorem dX4_firstChanged_23 : decode cX4_firstChanged 23 = .ok (.iload_n 1, 1) := by decide +kernel
theorem dX4_firstChanged_24 : decode cX4_firstChanged 24 = .ok (.ireturn, 1) := by decide +kernel
set_option maxRecDepth 20000 in
theorem ggX4_save_X4_firstChanged : GoodIn wsX4_save wsX4_firstChanged := goodIn_ca (goodIn_r _ [10, 11, 16, 17, 18, 19, 20, 21, 22, 23, 24, 25, 26, 27, 28, 29, 30, 31, 32, 33, 34, 35, 36, 37, 38] (by decide +kernel) (by decide +kernel)) (goodIn_sub (fun _ h => List.mem_cons_of_mem _ (List.mem_append_right _ h)) (by decide +kernel))
set_option maxRecDepth 20000 in
theorem gX4_save_X4_firstChanged : GoodIn wsX4_save (wsV RX4 69 RX4 yX4_firstChanged wsX4_firstChanged) := goodIn_app (goodIn_of _ (by decide +kernel)) ggX4_save_X4_firstChanged
set_option maxRecDepth 20000 in
theorem ggX4_save_X4_keptCopy : GoodIn wsX4_save wsX4_keptCopy := goodIn_ca (goodIn_r _ [15, 5, 16, 17, 18, 19, 20, 21, 22, 23, 24, 25, 26, 27, 28, 29, 30, 31, 32, 33, 34, 35, 36, 37, 38] (by decide +kernel) (by decide +kernel)) (goodIn_sub (fun _ h => List.mem_cons_of_mem _ (List.mem_append_right _ h)) (by decide +kernel))
set_option maxRecDepth 20000 in
theorem gX4_save_X4_keptCopy : GoodIn wsX4_save (wsV RX4 75 RX4 yX4_keptCopy wsX4_keptCopy) := goodIn_app (goodIn_of _ (by decide +kernel)) ggX4_save_X4_keptCopy
theorem dX4_save_0 : decode cX4_save 0 = .ok (.aload_n 0, 1) := by decide +kernel
theorem dX4_save_1 : decode cX4_save 1 = .ok (.iconst 2, 1) := by decide +kernel
theorem dX4_save_2 : decode cX4_save 2 = .ok (.putfield 43, 3) := by decide +kernel
theorem dX4_save_5 : decode cX4_save 5 = .ok (.aload_n 0, 1) := by decide +kernel
theorem dX4_save_6 : decode cX4_save 6 = .ok (.aload_n 0, 1) := by decide +kernel
theorem dX4_save_7 : decode cX4_save 7 = .ok (.getfield 50, 3) := by decide +kernel
theorem dX4_save_10 : decode cX4_save 10 = .ok (.putfield 63, 3) := by decide +kernel
theorem dX4_save_13 : decode cX4_save 13 = .ok (.aload_n 0, 1) := by decide +kernel
theorem dX4_save_14 : decode cX4_save 14 = .ok (.aload_n 0, 1) := by decide +kernel
theorem dX4_save_15 : decode cX4_save 15 = .ok (.invokevirtual 69, 3) := by decide +kernel
theorem dX4_save_18 : decode cX4_save 18 = .ok (.putfield 72, 3) := by decide +kernel
theorem dX4_save_21 : decode cX4_save 21 = .ok (.aload_n 0, 1) := by decide +kernel
theorem dX4_save_22 : decode cX4_save 22 = .ok (.getfield 16, 3) := by decide +kernel
theorem dX4_save_25 : decode cX4_save 25 = .ok (.iconst 2, 1) := by decide +kernel
theorem dX4_save_26 : decode cX4_save 26 = .ok (.aload_n 0, 1) := by decide +kernel
theorem dX4_save_27 : decode cX4_save 27 = .ok (.getfield 72, 3) := by decide +kernel
theorem dX4_save_30 : decode cX4_save 30 = .ok (.imul, 1) := by decide +kernel
theorem dX4_save_31 : decode cX4_save 31 = .ok (.iconst 1, 1) := by decide +kernel
theorem dX4_save_32 : decode cX4_save 32 = .ok (.iadd, 1) := by decide +kernel
theorem dX4_save_33 : decode cX4_save 33 = .ok (.aload_n 0, 1) := by decide +kernel
theorem dX4_save_34 : decode cX4_save 34 = .ok (.aload_n 0, 1) := by decide +kernel
theorem dX4_save_35 : decode cX4_save 35 = .ok (.getfield 72, 3) := by decide +kernel
theorem dX4_save_38 : decode cX4_save 38 = .ok (.invokevirtual 75, 3) := by decide +kernel
theorem dX4_save_41 : decode cX4_save 41 = .ok (.isub, 1) := by decide +kernel
theorem dX4_save_42 : decode cX4_save 42 = .ok (.iconst 0, 1) := by decide +kernel
theorem dX4_save_43 : decode cX4_save 43 = .ok (.iastore, 1) := by decide +kernel
theorem dX4_save_44 : decode cX4_save 44 = .ok (.return_, 1) := by decide +kernel
set_option maxRecDepth 20000 in
theorem ggX4_isSaved_X4_keptCopy : GoodIn wsX4_isSaved wsX4_keptCopy := goodIn_ca (goodIn_r _ [10, 4, 38, 39, 40, 41, 42, 43, 44, 45, 46, 47, 48, 49, 50, 51, 52, 53, 54, 55, 56, 57, 58, 59, 60] (by decide +kernel) (by decide +kernel)) (goodIn_sub (fun _ h => List.mem_cons_of_mem _ (List.mem_append_right _ h)) (by decide +kernel))
set_option maxRecDepth 20000 in
theorem gX4_isSaved_X4_keptCopy : GoodIn wsX4_isSaved (wsV RX4 75 RX4 yX4_keptCopy wsX4_keptCopy) := goodIn_app (goodIn_of _ (by decide +kernel)) ggX4_isSaved_X4_keptCopy
set_option maxRecDepth 20000 in
theorem ggX4_isSaved_X4_user : GoodIn wsX4_isSaved wsX4_user := goodIn_ca (goodIn_r _ [14, 15, 16, 38, 39, 40, 41, 42, 43, 44, 45, 46, 47, 48, 49, 50, 51, 52, 53, 54, 55, 56, 57, 58, 59, 60] (by decide +kernel) (by decide +kernel)) (goodIn_sub (fun _ h => List.mem_cons_of_mem _ (List.mem_append_right _ h)) (by decide +kernel))
set_option maxRecDepth 20000 in
theorem gX4_isSaved_X4_user : GoodIn wsX4_isSaved (wsV RX4 46 RX4 yX4_user wsX4_user) := goodIn_app (goodIn_of _ (by decide +kernel)) ggX4_isSaved_X4_user
set_option maxRecDepth 20000 in
theorem ggX4_isSaved_X4_run : GoodIn wsX4_isSaved wsX4_run := goodIn_r _ [20, 21, 22, 23, 38, 39, 40, 41, 42, 43, 44, 45, 46, 47, 48, 49, 50, 51, 52, 53, 54, 55, 56, 57, 58, 59, 60] (by decide +kernel) (by decide +kernel)
set_option maxRecDepth 20000 in
theorem gX4_isSaved_X4_run : GoodIn wsX4_isSaved (wsV RX4 60 RX4 yX4_run wsX4_run) := goodIn_app (goodIn_of _ (by decide +kernel)) ggX4_isSaved_X4_run
set_option maxRecDepth 20000 in
theorem ggX4_isSaved_X4_firstChanged : GoodIn wsX4_isSaved wsX4_firstChanged := goodIn_ca (goodIn_r _ [27, 5, 38, 39, 40, 41, 42, 43, 44, 45, 46, 47, 48, 49, 50, 51, 52, 53, 54, 55, 56, 57, 58, 59, 60] (by decide +kernel) (by decide +kernel)) (goodIn_sub (fun _ h => List.mem_cons_of_mem _ (List.mem_append_right _ h)) (by decide +kernel))
set_option maxRecDepth 20000 in
theorem gX4_isSaved_X4_firstChanged : GoodIn wsX4_isSaved (wsV RX4 69 RX4 yX4_firstChanged wsX4_firstChanged) := goodIn_app (goodIn_of _ (by decide +kernel)) ggX4_isSaved_X4_firstChanged
set_option maxRecDepth 20000 in
theorem ggX4_isSaved_X4_sleep : GoodIn wsX4_isSaved wsX4_sleep := goodIn_r _ [31, 21, 32, 38, 39, 40, 41, 42, 43, 44, 45, 46, 47, 48, 49, 50, 51, 52, 53, 54, 55, 56, 57, 58, 59, 60] (by decide +kernel) (by decide +kernel)
set_option maxRecDepth 20000 in
theorem gX4_isSaved_X4_sleep : GoodIn wsX4_isSaved (wsV RX4 79 RX4 yX4_sleep wsX4_sleep) := goodIn_app (goodIn_of _ (by decide +kernel)) ggX4_isSaved_X4_sleep
set_option maxRecDepth 20000 in
theorem ggX4_isSaved_X4_save : GoodIn wsX4_isSaved wsX4_save := goodIn_ca (goodIn_r _ [36, 21, 22, 37, 1, 4, 24, 25, 26, 9, 27, 5, 6, 7, 8, 10, 38, 39, 40, 41, 42, 43, 44, 45, 46, 47, 48, 49, 50, 51, 52, 53, 54, 55, 56, 57, 58, 59, 60] (by decide +kernel) (by decide +kernel)) (goodIn_sub (fun _ h => List.mem_cons_of_mem _ (List.mem_append_right _ h)) (by decide +kernel))
set_option maxRecDepth 20000 in
theorem gX4_isSaved_X4_save : GoodIn wsX4_isSaved (wsV RX4 82 RX4 yX4_save wsX4_save) := goodIn_app (goodIn_of _ (by decide +kernel)) ggX4_isSaved_X4_save
theorem dX4_isSaved_0 : decode cX4_isSaved 0 = .ok (.aload_n 0, 1) := by decide +kernel
theorem dX4_isSaved_1 : decode cX4_isSaved 1 = .ok (.aload_n 0, 1) := by decide +kernel
theorem dX4_isSaved_2 : decode cX4_isSaved 2 = .ok (.getfield 72, 3) := by decide +kernel
theorem dX4_isSaved_5 : decode cX4_isSaved 5 = .ok (.invokevirtual 75, 3) := by decide +kernel
theorem dX4_isSaved_8 : decode cX4_isSaved 8 = .ok (.istore_n 1, 1) := by decide +kernel
theorem dX4_isSaved_9 : decode cX4_isSaved 9 = .ok (.iconst 1, 1) := by decide +kernel
theorem dX4_isSaved_10 : decode cX4_isSaved 10 = .ok (.iload_n 1, 1) := by decide +kernel
theorem dX4_isSaved_11 : decode cX4_isSaved 11 = .ok (.isub, 1) := by decide +kernel
theorem dX4_isSaved_12 : decode cX4_isSaved 12 = .ok (.istore_n 2, 1) := by decide +kernel
theorem dX4_isSaved_13 : decode cX4_isSaved 13 = .ok (.iconst 0, 1) := by decide +kernel
theorem dX4_isSaved_14 : decode cX4_isSaved 14 = .ok (.istore_n 3, 1) := by decide +kernel
theorem dX4_isSaved_15 : decode cX4_isSaved 15 = .ok (.iload_n 3, 1) := by decide +kernel
theorem dX4_isSaved_16 : decode cX4_isSaved 16 = .ok (.bipush 16, 2) := by decide +kernel
theorem dX4_isSaved_18 : decode cX4_isSaved 18 = .ok (.if_icmp .ge 41, 3) := by decide +kernel
theorem dX4_isSaved_21 : decode cX4_isSaved 21 = .ok (.aload_n 0, 1) := by decide +kernel
theorem dX4_isSaved_22 : decode cX4_isSaved 22 = .ok (.getfield 13, 3) := by decide +kernel
theorem dX4_isSaved_25 : decode cX4_isSaved 25 = .ok (.bipush 16, 2) := by decide +kernel
theorem dX4_isSaved_27 : decode cX4_isSaved 27 = .ok (.iconst 2, 1) := by decide +kernel
theorem dX4_isSaved_28 : decode cX4_isSaved 28 = .ok (.aload_n 0, 1) := by decide +kernel
theorem dX4_isSaved_29 : decode cX4_isSaved 29 = .ok (.getfield 72, 3) := by decide +kernel
theorem dX4_isSaved_32 : decode cX4_isSaved 32 = .ok (.imul, 1) := by decide +kernel
theorem dX4_isSaved_33 : decode cX4_isSaved 33 = .ok (.iload_n 2, 1) := by decide +kernel
theorem dX4_isSaved_34 : decode cX4_isSaved 34 = .ok (.iadd, 1) := by decide +kernel
theorem dX4_isSaved_35 : decode cX4_isSaved 35 = .ok (.imul, 1) := by decide +kernel
theorem dX4_isSaved_36 : decode cX4_isSaved 36 = .ok (.iload_n 3, 1) := by decide +kernel
theorem dX4_isSaved_37 : decode cX4_isSaved 37 = .ok (.iadd, 1) := by decide +kernel
theorem dX4_isSaved_38 : decode cX4_isSaved 38 = .ok (.aload_n 0, 1) := by decide +kernel
theorem dX4_isSaved_39 : decode cX4_isSaved 39 = .ok (.getfield 7, 3) := by decide +kernel
theorem dX4_isSaved_42 : decode cX4_isSaved 42 = .ok (.bipush 16, 2) := by decide +kernel
theorem dX4_isSaved_44 : decode cX4_isSaved 44 = .ok (.aload_n 0, 1) := by decide +kernel
theorem dX4_isSaved_45 : decode cX4_isSaved 45 = .ok (.getfield 72, 3) := by decide +kernel
theorem dX4_isSaved_48 : decode cX4_isSaved 48 = .ok (.imul, 1) := by decide +kernel
theorem dX4_isSaved_49 : decode cX4_isSaved 49 = .ok (.iload_n 3, 1) := by decide +kernel
theorem dX4_isSaved_50 : decode cX4_isSaved 50 = .ok (.iadd, 1) := by decide +kernel
theorem dX4_isSaved_51 : decode cX4_isSaved 51 = .ok (.baload, 1) := by decide +kernel
theorem dX4_isSaved_52 : decode cX4_isSaved 52 = .ok (.bastore, 1) := by decide +kernel
theorem dX4_isSaved_53 : decode cX4_isSaved 53 = .ok (.iinc 3 1, 3) := by decide +kernel
theorem dX4_isSaved_56 : decode cX4_isSaved 56 = .ok (.goto (-41), 3) := by decide +kernel
theorem dX4_isSaved_59 : decode cX4_isSaved 59 = .ok (.aload_n 0, 1) := by decide +kernel
theorem dX4_isSaved_60 : decode cX4_isSaved 60 = .ok (.getfield 16, 3) := by decide +kernel
theorem dX4_isSaved_63 : decode cX4_isSaved 63 = .ok (.iconst 2, 1) := by decide +kernel
theorem dX4_isSaved_64 : decode cX4_isSaved 64 = .ok (.aload_n 0, 1) := by decide +kernel
theorem dX4_isSaved_65 : decode cX4_isSaved 65 = .ok (.getfield 72, 3) := by decide +kernel
theorem dX4_isSaved_68 : decode cX4_isSaved 68 = .ok (.imul, 1) := by decide +kernel
theorem dX4_isSaved_69 : decode cX4_isSaved 69 = .ok (.iload_n 2, 1) := by decide +kernel
theorem dX4_isSaved_70 : decode cX4_isSaved 70 = .ok (.iadd, 1) := by decide +kernel
theorem dX4_isSaved_71 : decode cX4_isSaved 71 = .ok (.aload_n 0, 1) := by decide +kernel
theorem dX4_isSaved_72 : decode cX4_isSaved 72 = .ok (.getfield 16, 3) := by decide +kernel
theorem dX4_isSaved_75 : decode cX4_isSaved 75 = .ok (.iconst 2, 1) := by decide +kernel
theorem dX4_isSaved_76 : decode cX4_isSaved 76 = .ok (.aload_n 0, 1) := by decide +kernel
theorem dX4_isSaved_77 : decode cX4_isSaved 77 = .ok (.getfield 72, 3) := by decide +kernel
theorem dX4_isSaved_80 : decode cX4_isSaved 80 = .ok (.imul, 1) := by decide +kernel
theorem dX4_isSaved_81 : decode cX4_isSaved 81 = .ok (.iload_n 1, 1) := by decide +kernel
theorem dX4_isSaved_82 : decode cX4_isSaved 82 = .ok (.iadd, 1) := by decide +kernel
theorem dX4_isSaved_83 : decode cX4_isSaved 83 = .ok (.iaload, 1) := by decide +kernel
theorem dX4_isSaved_84 : decode cX4_isSaved 84 = .ok (.iconst 1, 1) := by decide +kernel
theorem dX4_isSaved_85 : decode cX4_isSaved 85 = .ok (.iadd, 1) := by decide +kernel
theorem dX4_isSaved_86 : decode cX4_isSaved 86 = .ok (.iastore, 1) := by decide +kernel
theorem dX4_isSaved_87 : decode cX4_isSaved 87 = .ok (.aload_n 0, 1) := by decide +kernel
theorem dX4_isSaved_88 : decode cX4_isSaved 88 = .ok (.getfield 20, 3) := by decide +kernel
theorem dX4_isSaved_91 : decode cX4_isSaved 91 = .ok (.aload_n 0, 1) := by decide +kernel
theorem dX4_isSaved_92 : decode cX4_isSaved 92 = .ok (.getfield 72, 3) := by decide +kernel
theorem dX4_isSaved_95 : decode cX4_isSaved 95 = .ok (.iconst 0, 1) := by decide +kernel
theorem dX4_isSaved_96 : decode cX4_isSaved 96 = .ok (.bastore, 1) := by decide +kernel
theorem dX4_isSaved_97 : decode cX4_isSaved 97 = .ok (.aload_n 0, 1) := by decide +kernel
theorem dX4_isSaved_98 : decode cX4_isSaved 98 = .ok (.invokevirtual 46, 3) := by decide +kernel
theorem dX4_isSaved_101 : decode cX4_isSaved 101 = .ok (.ifCond .le 10, 3) := by decide +kernel
theorem dX4_isSaved_104 : decode cX4_isSaved 104 = .ok (.aload_n 0, 1) := by decide +kernel
theorem dX4_isSaved_105 : decode cX4_isSaved 105 = .ok (.invokevirtual 60, 3) := by decide +kernel
theorem dX4_isSaved_108 : decode cX4_isSaved 108 = .ok (.goto 23, 3) := by decide +kernel
theorem dX4_isSaved_111 : decode cX4_isSaved 111 = .ok (.aload_n 0, 1) := by decide +kernel
theorem dX4_isSaved_112 : decode cX4_isSaved 112 = .ok (.invokevirtual 69, 3) := by decide +kernel
theorem dX4_isSaved_115 : decode cX4_isSaved 115 = .ok (.bipush 8, 2) := by decide +kernel
theorem dX4_isSaved_117 : decode cX4_isSaved 117 = .ok (.if_icmp .ne 10, 3) := by decide +kernel
theorem dX4_isSaved_120 : decode cX4_isSaved 120 = .ok (.aload_n 0, 1) := by decide +kernel
theorem dX4_isSaved_121 : decode cX4_isSaved 121 = .ok (.invokevirtual 79, 3) := by decide +kernel
theorem dX4_isSaved_124 : decode cX4_isSaved 124 = .ok (.goto 7, 3) := by decide +kernel
theorem dX4_isSaved_127 : decode cX4_isSaved 127 = .ok (.aload_n 0, 1) := by decide +kernel
theorem dX4_isSaved_128 : decode cX4_isSaved 128 = .ok (.invokevirtual 82, 3) := by decide +kernel
theorem dX4_isSaved_131 : decode cX4_isSaved 131 = .ok (.return_, 1) := by decide +kernel
set_option maxRecDepth 20000 in
theorem ggX4_due_X4_user : GoodIn wsX4_due wsX4_user := goodIn_ca (goodIn_r _ [12, 13, 14, 15, 16, 17, 18, 19, 20, 21, 22, 23, 24, 25, 26, 27, 28, 29, 30, 31, 32, 33, 34, 35, 36, 37] (by decide +kernel) (by decide +kernel)) (goodIn_sub (fun _ h => List.mem_cons_of_mem _ (List.mem_append_right _ h)) (by decide +kernel))
set_option maxRecDepth 20000 in
theorem gX4_due_X4_user : GoodIn wsX4_due (wsV RX4 46 RX4 yX4_user wsX4_user) := goodIn_app (goodIn_of _ (by decide +kernel)) ggX4_due_X4_user
theorem dX4_due_0 : decode cX4_due 0 = .ok (.aload_n 0, 1) := by decide +kernel
theorem dX4_due_1 : decode cX4_due 1 = .ok (.getfield 43, 3) := by decide +kernel
theorem dX4_due_4 : decode cX4_due 4 = .ok (.iconst 1, 1) := by decide +kernel
theorem dX4_due_5 : decode cX4_due 5 = .ok (.if_icmp .ne 25, 3) := by decide +kernel
theorem dX4_due_8 : decode cX4_due 8 = .ok (.aload_n 0, 1) := by decide +kernel
theorem dX4_due_9 : decode cX4_due 9 = .ok (.invokevirtual 46, 3) := by decide +kernel
theorem dX4_due_12 : decode cX4_due 12 = .ok (.ifCond .ne 14, 3) := by decide +kernel
theorem dX4_due_15 : decode cX4_due 15 = .ok (.aload_n 0, 1) := by decide +kernel
theorem dX4_due_16 : decode cX4_due 16 = .ok (.getfield 54, 3) := by decide +kernel
theorem dX4_due_19 : decode cX4_due 19 = .ok (.ldc2_w 85, 3) := by decide +kernel
theorem dX4_due_22 : decode cX4_due 22 = .ok (.ladd, 1) := by decide +kernel
theorem dX4_due_23 : decode cX4_due 23 = .ok (.goto 6, 3) := by decide +kernel
theorem dX4_due_26 : decode cX4_due 26 = .ok (.ldc2_w 87, 3) := by decide +kernel
theorem dX4_due_29 : decode cX4_due 29 = .ok (.lreturn, 1) := by decide +kernel
theorem dX4_due_30 : decode cX4_due 30 = .ok (.aload_n 0, 1) := by decide +kernel
theorem dX4_due_31 : decode cX4_due 31 = .ok (.getfield 43, 3) := by decide +kernel
theorem dX4_due_34 : decode cX4_due 34 = .ok (.iconst 2, 1) := by decide +kernel
theorem dX4_due_35 : decode cX4_due 35 = .ok (.if_icmp .ne 14, 3) := by decide +kernel
theorem dX4_due_38 : decode cX4_due 38 = .ok (.aload_n 0, 1) := by decide +kernel
theorem dX4_due_39 : decode cX4_due 39 = .ok (.getfield 63, 3) := by decide +kernel
theorem dX4_due_42 : decode cX4_due 42 = .ok (.ldc2_w 89, 3) := by decide +kernel
theorem dX4_due_45 : decode cX4_due 45 = .ok (.ladd, 1) := by decide +kernel
theorem dX4_due_46 : decode cX4_due 46 = .ok (.goto 25, 3) := by decide +kernel
theorem dX4_due_49 : decode cX4_due 49 = .ok (.aload_n 0, 1) := by decide +kernel
theorem dX4_due_50 : decode cX4_due 50 = .ok (.getfield 43, 3) := by decide +kernel
theorem dX4_due_53 : decode cX4_due 53 = .ok (.iconst 4, 1) := by decide +kernel
theorem dX4_due_54 : decode cX4_due 54 = .ok (.if_icmp .ne 14, 3) := by decide +kernel
theorem dX4_due_57 : decode cX4_due 57 = .ok (.aload_n 0, 1) := by decide +kernel
theorem dX4_due_58 : decode cX4_due 58 = .ok (.getfield 63, 3) := by decide +kernel
theorem dX4_due_61 : decode cX4_due 61 = .ok (.ldc2_w 91, 3) := by decide +kernel
theorem dX4_due_64 : decode cX4_due 64 = .ok (.ladd, 1) := by decide +kernel
theorem dX4_due_65 : decode cX4_due 65 = .ok (.goto 6, 3) := by decide +kernel
theorem dX4_due_68 : decode cX4_due 68 = .ok (.ldc2_w 87, 3) := by decide +kernel
theorem dX4_due_71 : decode cX4_due 71 = .ok (.lreturn, 1) := by decide +kernel
set_option maxRecDepth 20000 in
theorem ggX4_goOn_X4_due : GoodIn wsX4_goOn wsX4_due := goodIn_ca (goodIn_r _ [7, 2, 8, 9, 10, 11, 12, 13, 14, 15, 16, 6, 17, 18, 19, 50, 51, 52, 53, 54, 55, 56, 57, 58, 59, 60, 61, 62, 63, 64, 65, 66, 67, 68, 69, 70, 71, 72] (by decide +kernel) (by decide +kernel)) (goodIn_sub (fun _ h => List.mem_cons_of_mem _ (List.mem_append_right _ h)) (by decide +kernel))
set_option maxRecDepth 20000 in
theorem gX4_goOn_X4_due : GoodIn wsX4_goOn (wsV RX4 93 RX4 yX4_due wsX4_due) := goodIn_app (goodIn_of _ (by decide +kernel)) ggX4_goOn_X4_due
set_option maxRecDepth 20000 in
theorem ggX4_goOn_X4_firstChanged : GoodIn wsX4_goOn wsX4_firstChanged := goodIn_ca (goodIn_r _ [23, 24, 50, 51, 52, 53, 54, 55, 56, 57, 58, 59, 60, 61, 62, 63, 64, 65, 66, 67, 68, 69, 70, 71, 72] (by decide +kernel) (by decide +kernel)) (goodIn_sub (fun _ h => List.mem_cons_of_mem _ (List.mem_append_right _ h)) (by decide +kernel))
set_option maxRecDepth 20000 in
theorem gX4_goOn_X4_firstChanged : GoodIn wsX4_goOn (wsV RX4 69 RX4 yX4_firstChanged wsX4_firstChanged) := goodIn_app (goodIn_of _ (by decide +kernel)) ggX4_goOn_X4_firstChanged
set_option maxRecDepth 20000 in
theorem ggX4_goOn_X4_save : GoodIn wsX4_goOn wsX4_save := goodIn_ca (goodIn_r _ [28, 2, 1, 11, 29, 30, 20, 21, 22, 6, 23, 24, 31, 32, 33, 34, 50, 51, 52, 53, 54, 55, 56, 57, 58, 59, 60, 61, 62, 63, 64, 65, 66, 67, 68, 69, 70, 71, 72] (by decide +kernel) (by decide +kernel)) (goodIn_sub (fun _ h => List.mem_cons_of_mem _ (List.mem_append_right _ h)) (by decide +kernel))
set_option maxRecDepth 20000 in
theorem gX4_goOn_X4_save : GoodIn wsX4_goOn (wsV RX4 82 RX4 yX4_save wsX4_save) := goodIn_app (goodIn_of _ (by decide +kernel)) ggX4_goOn_X4_save
set_option maxRecDepth 20000 in
theorem ggX4_goOn_X4_isSaved : GoodIn wsX4_goOn wsX4_isSaved := goodIn_ca (goodIn_r _ [38, 29, 39, 40, 30, 24, 31, 32, 33, 6, 34, 14, 15, 16, 17, 18, 19, 41, 42, 43, 44, 2, 1, 8, 20, 21, 22, 23, 45, 46, 47, 48, 49, 25, 26, 27, 28, 11, 50, 51, 52, 53, 54, 55, 56, 57, 58, 59, 60, 61, 62, 63, 64, 65, 66, 67, 68, 69, 70, 71, 72] (by decide +kernel) (by decide +kernel)) (goodIn_sub (fun _ h => List.mem_cons_of_mem _ (List.mem_append_right _ h)) (by decide +kernel))
set_option maxRecDepth 20000 in
theorem gX4_goOn_X4_isSaved : GoodIn wsX4_goOn (wsV RX4 97 RX4 yX4_isSaved wsX4_isSaved) := goodIn_app (goodIn_of _ (by decide +kernel)) ggX4_goOn_X4_isSaved
set_option maxRecDepth 20000 in
theorem ggX4_goOn_X4_sleep : GoodIn wsX4_goOn wsX4_sleep := goodIn_r _ [48, 2, 49, 50, 51, 52, 53, 54, 55, 56, 57, 58, 59, 60, 61, 62, 63, 64, 65, 66, 67, 68, 69, 70, 71, 72] (by decide +kernel) (by decide +kernel)
set_option maxRecDepth 20000 in
theorem gX4_goOn_X4_sleep : GoodIn wsX4_goOn (wsV RX4 79 RX4 yX4_sleep wsX4_sleep) := goodIn_app (goodIn_of _ (by decide +kernel)) ggX4_goOn_X4_sleep
theorem dX4_goOn_0 : decode cX4_goOn 0 = .ok (.aload_n 0, 1) := by decide +kernel
theorem dX4_goOn_1 : decode cX4_goOn 1 = .ok (.invokevirtual 93, 3) := by decide +kernel
theorem dX4_goOn_4 : decode cX4_goOn 4 = .ok (.lstore_n 3, 1) := by decide +kernel
theorem dX4_goOn_5 : decode cX4_goOn 5 = .ok (.lload_n 3, 1) := by decide +kernel
theorem dX4_goOn_6 : decode cX4_goOn 6 = .ok (.lconst 0, 1) := by decide +kernel
theorem dX4_goOn_7 : decode cX4_goOn 7 = .ok (.lcmp, 1) := by decide +kernel
theorem dX4_goOn_8 : decode cX4_goOn 8 = .ok (.ifCond .lt 65, 3) := by decide +kernel
theorem dX4_goOn_11 : decode cX4_goOn 11 = .ok (.lload_n 3, 1) := by decide +kernel
theorem dX4_goOn_12 : decode cX4_goOn 12 = .ok (.lload_n 1, 1) := by decide +kernel
theorem dX4_goOn_13 : decode cX4_goOn 13 = .ok (.lcmp, 1) := by decide +kernel
theorem dX4_goOn_14 : decode cX4_goOn 14 = .ok (.ifCond .gt 59, 3) := by decide +kernel
theorem dX4_goOn_17 : decode cX4_goOn 17 = .ok (.aload_n 0, 1) := by decide +kernel
theorem dX4_goOn_18 : decode cX4_goOn 18 = .ok (.lload_n 3, 1) := by decide +kernel
theorem dX4_goOn_19 : decode cX4_goOn 19 = .ok (.putfield 50, 3) := by decide +kernel
theorem dX4_goOn_22 : decode cX4_goOn 22 = .ok (.aload_n 0, 1) := by decide +kernel
theorem dX4_goOn_23 : decode cX4_goOn 23 = .ok (.getfield 43, 3) := by decide +kernel
theorem dX4_goOn_26 : decode cX4_goOn 26 = .ok (.iconst 1, 1) := by decide +kernel
theorem dX4_goOn_27 : decode cX4_goOn 27 = .ok (.if_icmp .ne 19, 3) := by decide +kernel
theorem dX4_goOn_30 : decode cX4_goOn 30 = .ok (.aload_n 0, 1) := by decide +kernel
theorem dX4_goOn_31 : decode cX4_goOn 31 = .ok (.invokevirtual 69, 3) := by decide +kernel
theorem dX4_goOn_34 : decode cX4_goOn 34 = .ok (.bipush 8, 2) := by decide +kernel
theorem dX4_goOn_36 : decode cX4_goOn 36 = .ok (.if_icmp .ge 10, 3) := by decide +kernel
theorem dX4_goOn_39 : decode cX4_goOn 39 = .ok (.aload_n 0, 1) := by decide +kernel
theorem dX4_goOn_40 : decode cX4_goOn 40 = .ok (.invokevirtual 82, 3) := by decide +kernel
theorem dX4_goOn_43 : decode cX4_goOn 43 = .ok (.goto 22, 3) := by decide +kernel
theorem dX4_goOn_46 : decode cX4_goOn 46 = .ok (.aload_n 0, 1) := by decide +kernel
theorem dX4_goOn_47 : decode cX4_goOn 47 = .ok (.getfield 43, 3) := by decide +kernel
theorem dX4_goOn_50 : decode cX4_goOn 50 = .ok (.iconst 2, 1) := by decide +kernel
theorem dX4_goOn_51 : decode cX4_goOn 51 = .ok (.if_icmp .ne 10, 3) := by decide +kernel
theorem dX4_goOn_54 : decode cX4_goOn 54 = .ok (.aload_n 0, 1) := by decide +kernel
theorem dX4_goOn_55 : decode cX4_goOn 55 = .ok (.invokevirtual 97, 3) := by decide +kernel
theorem dX4_goOn_58 : decode cX4_goOn 58 = .ok (.goto 7, 3) := by decide +kernel
theorem dX4_goOn_61 : decode cX4_goOn 61 = .ok (.aload_n 0, 1) := by decide +kernel
theorem dX4_goOn_62 : decode cX4_goOn 62 = .ok (.invokevirtual 79, 3) := by decide +kernel
theorem dX4_goOn_65 : decode cX4_goOn 65 = .ok (.aload_n 0, 1) := by decide +kernel
theorem dX4_goOn_66 : decode cX4_goOn 66 = .ok (.invokevirtual 93, 3) := by decide +kernel
theorem dX4_goOn_69 : decode cX4_goOn 69 = .ok (.lstore_n 3, 1) := by decide +kernel
theorem dX4_goOn_70 : decode cX4_goOn 70 = .ok (.goto (-65), 3) := by decide +kernel
theorem dX4_goOn_73 : decode cX4_goOn 73 = .ok (.aload_n 0, 1) := by decide +kernel
theorem dX4_goOn_74 : decode cX4_goOn 74 = .ok (.lload_n 1, 1) := by decide +kernel
theorem dX4_goOn_75 : decode cX4_goOn 75 = .ok (.putfield 50, 3) := by decide +kernel
theorem dX4_goOn_78 : decode cX4_goOn 78 = .ok (.return_, 1) := by decide +kernel
set_option maxRecDepth 20000 in
theorem ggX4_step_X4_goOn : GoodIn wsX4_step wsX4_goOn := goodIn_ca (goodIn_r _ [9, 2, 4, 10, 11, 12, 8, 13, 14, 15, 16, 17, 18, 19, 20, 21, 22, 23, 1, 24, 25, 26, 27, 28, 29, 30, 31, 32, 33, 34, 35, 36, 37, 38, 39, 40, 41, 42, 43, 44, 45, 46, 47, 48, 49, 50, 51, 52, 53, 54, 55, 56, 57, 58, 59, 60, 61, 62, 63, 64, 65, 66, 67, 68, 69, 70, 71, 72, 73, 74, 75, 76, 77] (by decide +kernel) (by decide +kernel)) (goodIn_sub (fun _ h => List.mem_cons_of_mem _ (List.mem_append_right _ h)) (by decide +kernel))
set_option maxRecDepth 20000 in
theorem gX4_step_X4_goOn : GoodIn wsX4_step (wsV RX4 102 RX4 yX4_goOn wsX4_goOn) := goodIn_app (goodIn_of _ (by decide +kernel)) ggX4_step_X4_goOn
theorem dX4_step_0 : decode cX4_step 0 = .ok (.aload_n 0, 1) := by decide +kernel
theorem dX4_step_1 : decode cX4_step 1 = .ok (.iconst 0, 1) := by decide +kernel
theorem dX4_step_2 : decode cX4_step 2 = .ok (.putfield 39, 3) := by decide +kernel
theorem dX4_step_5 : decode cX4_step 5 = .ok (.lload_n 1, 1) := by decide +kernel
theorem dX4_step_6 : decode cX4_step 6 = .ok (.aload_n 0, 1) := by decide +kernel
theorem dX4_step_7 : decode cX4_step 7 = .ok (.getfield 50, 3) := by decide +kernel
theorem dX4_step_10 : decode cX4_step 10 = .ok (.lcmp, 1) := by decide +kernel
theorem dX4_step_11 : decode cX4_step 11 = .ok (.ifCond .lt 16, 3) := by decide +kernel
theorem dX4_step_14 : decode cX4_step 14 = .ok (.lload_n 1, 1) := by decide +kernel
theorem dX4_step_15 : decode cX4_step 15 = .ok (.aload_n 0, 1) := by decide +kernel
theorem dX4_step_16 : decode cX4_step 16 = .ok (.getfield 50, 3) := by decide +kernel
theorem dX4_step_19 : decode cX4_step 19 = .ok (.lsub, 1) := by decide +kernel
theorem dX4_step_20 : decode cX4_step 20 = .ok (.ldc2_w 100, 3) := by decide +kernel
theorem dX4_step_23 : decode cX4_step 23 = .ok (.lcmp, 1) := by decide +kernel
theorem dX4_step_24 : decode cX4_step 24 = .ok (.ifCond .le 6, 3) := by decide +kernel
theorem dX4_step_27 : decode cX4_step 27 = .ok (.bipush (-2), 2) := by decide +kernel
theorem dX4_step_29 : decode cX4_step 29 = .ok (.ireturn, 1) := by decide +kernel
theorem dX4_step_30 : decode cX4_step 30 = .ok (.aload_n 0, 1) := by decide +kernel
theorem dX4_step_31 : decode cX4_step 31 = .ok (.lload_n 1, 1) := by decide +kernel
theorem dX4_step_32 : decode cX4_step 32 = .ok (.invokevirtual 102, 3) := by decide +kernel
theorem dX4_step_35 : decode cX4_step 35 = .ok (.aload_n 0, 1) := by decide +kernel
theorem dX4_step_36 : decode cX4_step 36 = .ok (.getfield 43, 3) := by decide +kernel
theorem dX4_step_39 : decode cX4_step 39 = .ok (.ireturn, 1) := by decide +kernel
theorem dX4_init__0 : decode cX4_init_ 0 = .ok (.aload_n 0, 1) := by decide +kernel
theorem dX4_init__1 : decode cX4_init_ 1 = .ok (.iconst 0, 1) := by decide +kernel
theorem dX4_init__2 : decode cX4_init_ 2 = .ok (.putfield 39, 3) := by decide +kernel
theorem dX4_init__5 : decode cX4_init_ 5 = .ok (.iload_n 1, 1) := by decide +kernel
theorem dX4_init__6 : decode cX4_init_ 6 = .ok (.iconst 1, 1) := by decide +kernel
theorem dX4_init__7 : decode cX4_init_ 7 = .ok (.if_icmp .lt 9, 3) := by decide +kernel
theorem dX4_init__10 : decode cX4_init_ 10 = .ok (.iload_n 1, 1) := by decide +kernel
theorem dX4_init__11 : decode cX4_init_ 11 = .ok (.bipush 20, 2) := by decide +kernel
theorem dX4_init__13 : decode cX4_init_ 13 = .ok (.if_icmp .le 5, 3) := by decide +kernel
theorem dX4_init__16 : decode cX4_init_ 16 = .ok (.iconst (-1), 1) := by decide +kernel
theorem dX4_init__17 : decode cX4_init_ 17 = .ok (.ireturn, 1) := by decide +kernel
theorem dX4_init__18 : decode cX4_init_ 18 = .ok (.iload_n 2, 1) := by decide +kernel
theorem dX4_init__19 : decode cX4_init_ 19 = .ok (.ifCond .lt 9, 3) := by decide +kernel
theorem dX4_init__22 : decode cX4_init_ 22 = .ok (.iload_n 2, 1) := by decide +kernel
theorem dX4_init__23 : decode cX4_init_ 23 = .ok (.bipush 100, 2) := by decide +kernel
theorem dX4_init__25 : decode cX4_init_ 25 = .ok (.if_icmp .le 6, 3) := by decide +kernel
theorem dX4_init__28 : decode cX4_init_ 28 = .ok (.bipush (-2), 2) := by decide +kernel
theorem dX4_init__30 : decode cX4_init_ 30 = .ok (.ireturn, 1) := by decide +kernel
theorem dX4_init__31 : decode cX4_init_ 31 = .ok (.aload_n 0, 1) := by decide +kernel
theorem dX4_init__32 : decode cX4_init_ 32 = .ok (.getfield 43, 3) := by decide +kernel
theorem dX4_init__35 : decode cX4_init_ 35 = .ok (.ifCond .eq 6, 3) := by decide +kernel
theorem dX4_init__38 : decode cX4_init_ 38 = .ok (.bipush (-3), 2) := by decide +kernel
theorem dX4_init__40 : decode cX4_init_ 40 = .ok (.ireturn, 1) := by decide +kernel
theorem dX4_init__41 : decode cX4_init_ 41 = .ok (.aload_n 0, 1) := by decide +kernel
theorem dX4_init__42 : decode cX4_init_ 42 = .ok (.getfield 27, 3) := by decide +kernel
theorem dX4_init__45 : decode cX4_init_ 45 = .ok (.iload_n 1, 1) := by decide +kernel
theorem dX4_init__46 : decode cX4_init_ 46 = .ok (.iconst 1, 1) := by decide +kernel
theorem dX4_init__47 : decode cX4_init_ 47 = .ok (.bastore, 1) := by decide +kernel
theorem dX4_init__48 : decode cX4_init_ 48 = .ok (.aload_n 0, 1) := by decide +kernel
theorem dX4_init__49 : decode cX4_init_ 49 = .ok (.getfield 30, 3) := by decide +kernel
theorem dX4_init__52 : decode cX4_init_ 52 = .ok (.iload_n 1, 1) := by decide +kernel
theorem dX4_init__53 : decode cX4_init_ 53 = .ok (.iload_n 2, 1) := by decide +kernel
theorem dX4_init__54 : decode cX4_init_ 54 = .ok (.iastore, 1) := by decide +kernel
theorem dX4_init__55 : decode cX4_init_ 55 = .ok (.aload_n 0, 1) := by decide +kernel
theorem dX4_init__56 : decode cX4_init_ 56 = .ok (.getfield 33, 3) := by decide +kernel
theorem dX4_init__59 : decode cX4_init_ 59 = .ok (.iload_n 1, 1) := by decide +kernel
theorem dX4_init__60 : decode cX4_init_ 60 = .ok (.iload_n 3, 1) := by decide +kernel
theorem dX4_init__61 : decode cX4_init_ 61 = .ok (.bastore, 1) := by decide +kernel
theorem dX4_init__62 : decode cX4_init_ 62 = .ok (.iconst 0, 1) := by decide +kernel
theorem dX4_init__63 : decode cX4_init_ 63 = .ok (.istore 4, 2) := by decide +kernel
theorem dX4_init__65 : decode cX4_init_ 65 = .ok (.iconst 1, 1) := by decide +kernel
theorem dX4_init__66 : decode cX4_init_ 66 = .ok (.istore 5, 2) := by decide +kernel
theorem dX4_init__68 : decode cX4_init_ 68 = .ok (.iload 5, 2) := by decide +kernel
theorem dX4_init__70 : decode cX4_init_ 70 = .ok (.bipush 20, 2) := by decide +kernel
theorem dX4_init__72 : decode cX4_init_ 72 = .ok (.if_icmp .gt 30, 3) := by decide +kernel
theorem dX4_init__75 : decode cX4_init_ 75 = .ok (.aload_n 0, 1) := by decide +kernel
theorem dX4_init__76 : decode cX4_init_ 76 = .ok (.getfield 27, 3) := by decide +kernel
theorem dX4_init__79 : decode cX4_init_ 79 = .ok (.iload 5, 2) := by decide +kernel
theorem dX4_init__81 : decode cX4_init_ 81 = .ok (.baload, 1) := by decide +kernel
theorem dX4_init__82 : decode cX4_init_ 82 = .ok (.ifCond .eq 10, 3) := by decide +kernel
theorem dX4_init__85 : decode cX4_init_ 85 = .ok (.iload 4, 2) := by decide +kernel
theorem dX4_init__87 : decode cX4_init_ 87 = .ok (.iconst 1, 1) := by decide +kernel
theorem dX4_init__88 : decode cX4_init_ 88 = .ok (.iadd, 1) := by decide +kernel
theorem dX4_init__89 : decode cX4_init_ 89 = .ok (.goto 5, 3) := by decide +kernel
theorem dX4_init__92 : decode cX4_init_ 92 = .ok (.iload 4, 2) := by decide +kernel
theorem dX4_init__94 : decode cX4_init_ 94 = .ok (.istore 4, 2) := by decide +kernel
theorem dX4_init__96 : decode cX4_init_ 96 = .ok (.iinc 5 1, 3) := by decide +kernel
theorem dX4_init__99 : decode cX4_init_ 99 = .ok (.goto (-31), 3) := by decide +kernel
theorem dX4_init__102 : decode cX4_init_ 102 = .ok (.iload 4, 2) := by decide +kernel
theorem dX4_init__104 : decode cX4_init_ 104 = .ok (.ireturn, 1) := by decide +kernel
theorem dX4_block_0 : decode cX4_block 0 = .ok (.aload_n 0, 1) := by decide +kernel
theorem dX4_block_1 : decode cX4_block 1 = .ok (.iconst 0, 1) := by decide +kernel
theorem dX4_block_2 : decode cX4_block 2 = .ok (.putfield 39, 3) := by decide +kernel
theorem dX4_block_5 : decode cX4_block 5 = .ok (.iload_n 1, 1) := by decide +kernel
theorem dX4_block_6 : decode cX4_block 6 = .ok (.ifCond .lt 9, 3) := by decide +kernel
theorem dX4_block_9 : decode cX4_block 9 = .ok (.iload_n 1, 1) := by decide +kernel
theorem dX4_block_10 : decode cX4_block 10 = .ok (.bipush 8, 2) := by decide +kernel
