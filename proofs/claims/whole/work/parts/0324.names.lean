theorem dX4_block_12 : decode cX4_block 12 = .ok (.if_icmp .lt 7, 3) := by decide +kernel
theorem dX4_block_15 : decode cX4_block 15 = .ok (.iconst (-1), 1) := by decide +kernel
theorem dX4_block_16 : decode cX4_block 16 = .ok (.goto 17, 3) := by decide +kernel
theorem dX4_block_19 : decode cX4_block 19 = .ok (.aload_n 0, 1) := by decide +kernel
theorem dX4_block_20 : decode cX4_block 20 = .ok (.getfield 20, 3) := by decide +kernel
theorem dX4_block_23 : decode cX4_block 23 = .ok (.iload_n 1, 1) := by decide +kernel
theorem dX4_block_24 : decode cX4_block 24 = .ok (.baload, 1) := by decide +kernel
theorem dX4_block_25 : decode cX4_block 25 = .ok (.ifCond .eq 7, 3) := by decide +kernel
theorem dX4_block_28 : decode cX4_block 28 = .ok (.iconst 1, 1) := by decide +kernel
theorem dX4_block_29 : decode cX4_block 29 = .ok (.goto 4, 3) := by decide +kernel
theorem dX4_block_32 : decode cX4_block 32 = .ok (.iconst 0, 1) := by decide +kernel
theorem dX4_block_33 : decode cX4_block 33 = .ok (.ireturn, 1) := by decide +kernel
theorem dX4_write_0 : decode cX4_write 0 = .ok (.aload_n 0, 1) := by decide +kernel
theorem dX4_write_1 : decode cX4_write 1 = .ok (.iconst 0, 1) := by decide +kernel
theorem dX4_write_2 : decode cX4_write 2 = .ok (.putfield 39, 3) := by decide +kernel
theorem dX4_write_5 : decode cX4_write 5 = .ok (.iload_n 1, 1) := by decide +kernel
theorem dX4_write_6 : decode cX4_write 6 = .ok (.ifCond .lt 9, 3) := by decide +kernel
theorem dX4_write_9 : decode cX4_write 9 = .ok (.iload_n 1, 1) := by decide +kernel
theorem dX4_write_10 : decode cX4_write 10 = .ok (.bipush 8, 2) := by decide +kernel
theorem dX4_write_12 : decode cX4_write 12 = .ok (.if_icmp .lt 5, 3) := by decide +kernel
theorem dX4_write_15 : decode cX4_write 15 = .ok (.iconst (-1), 1) := by decide +kernel
theorem dX4_write_16 : decode cX4_write 16 = .ok (.ireturn, 1) := by decide +kernel
theorem dX4_write_17 : decode cX4_write 17 = .ok (.iload_n 2, 1) := by decide +kernel
theorem dX4_write_18 : decode cX4_write 18 = .ok (.ifCond .lt 9, 3) := by decide +kernel
theorem dX4_write_21 : decode cX4_write 21 = .ok (.iload_n 2, 1) := by decide +kernel
theorem dX4_write_22 : decode cX4_write 22 = .ok (.bipush 16, 2) := by decide +kernel
theorem dX4_write_24 : decode cX4_write 24 = .ok (.if_icmp .lt 6, 3) := by decide +kernel
theorem dX4_write_27 : decode cX4_write 27 = .ok (.bipush (-2), 2) := by decide +kernel
theorem dX4_write_29 : decode cX4_write 29 = .ok (.ireturn, 1) := by decide +kernel
theorem dX4_write_30 : decode cX4_write 30 = .ok (.aload_n 0, 1) := by decide +kernel
theorem dX4_write_31 : decode cX4_write 31 = .ok (.getfield 43, 3) := by decide +kernel
theorem dX4_write_34 : decode cX4_write 34 = .ok (.iconst 1, 1) := by decide +kernel
theorem dX4_write_35 : decode cX4_write 35 = .ok (.if_icmp .eq 14, 3) := by decide +kernel
theorem dX4_write_38 : decode cX4_write 38 = .ok (.aload_n 0, 1) := by decide +kernel
theorem dX4_write_39 : decode cX4_write 39 = .ok (.getfield 43, 3) := by decide +kernel
theorem dX4_write_42 : decode cX4_write 42 = .ok (.iconst 5, 1) := by decide +kernel
theorem dX4_write_43 : decode cX4_write 43 = .ok (.if_icmp .eq 6, 3) := by decide +kernel
theorem dX4_write_46 : decode cX4_write 46 = .ok (.bipush (-3), 2) := by decide +kernel
theorem dX4_write_48 : decode cX4_write 48 = .ok (.ireturn, 1) := by decide +kernel
theorem dX4_write_49 : decode cX4_write 49 = .ok (.aload_n 0, 1) := by decide +kernel
theorem dX4_write_50 : decode cX4_write 50 = .ok (.getfield 7, 3) := by decide +kernel
theorem dX4_write_53 : decode cX4_write 53 = .ok (.bipush 16, 2) := by decide +kernel
theorem dX4_write_55 : decode cX4_write 55 = .ok (.iload_n 1, 1) := by decide +kernel
theorem dX4_write_56 : decode cX4_write 56 = .ok (.imul, 1) := by decide +kernel
theorem dX4_write_57 : decode cX4_write 57 = .ok (.iload_n 2, 1) := by decide +kernel
theorem dX4_write_58 : decode cX4_write 58 = .ok (.iadd, 1) := by decide +kernel
theorem dX4_write_59 : decode cX4_write 59 = .ok (.iload_n 3, 1) := by decide +kernel
theorem dX4_write_60 : decode cX4_write 60 = .ok (.bastore, 1) := by decide +kernel
theorem dX4_write_61 : decode cX4_write 61 = .ok (.aload_n 0, 1) := by decide +kernel
theorem dX4_write_62 : decode cX4_write 62 = .ok (.getfield 20, 3) := by decide +kernel
theorem dX4_write_65 : decode cX4_write 65 = .ok (.iload_n 1, 1) := by decide +kernel
theorem dX4_write_66 : decode cX4_write 66 = .ok (.iconst 1, 1) := by decide +kernel
theorem dX4_write_67 : decode cX4_write 67 = .ok (.bastore, 1) := by decide +kernel
theorem dX4_write_68 : decode cX4_write 68 = .ok (.iconst 1, 1) := by decide +kernel
theorem dX4_write_69 : decode cX4_write 69 = .ok (.ireturn, 1) := by decide +kernel
set_option maxRecDepth 20000 in
theorem ggX4_cut_X4_goOn : GoodIn wsX4_cut wsX4_goOn := goodIn_ca (goodIn_r _ [11, 2, 4, 12, 13, 14, 10, 15, 16, 17, 18, 19, 20, 21, 22, 23, 24, 25, 1, 26, 27, 28, 29, 30, 6, 31, 32, 33, 34, 35, 36, 37, 38, 39, 40, 41, 42, 43, 44, 45, 46, 47, 48, 49, 50, 51, 52, 53, 54, 55, 56, 57, 58, 59, 60, 61, 62, 63, 64, 65, 66, 67, 68, 69, 70, 71, 72, 73, 74, 75, 76, 77, 78] (by decide +kernel) (by decide +kernel)) (goodIn_sub (fun _ h => List.mem_cons_of_mem _ (List.mem_append_right _ h)) (by decide +kernel))
set_option maxRecDepth 20000 in
theorem gX4_cut_X4_goOn : GoodIn wsX4_cut (wsV RX4 102 RX4 yX4_goOn wsX4_goOn) := goodIn_app (goodIn_of _ (by decide +kernel)) ggX4_cut_X4_goOn
theorem dX4_cut_0 : decode cX4_cut 0 = .ok (.aload_n 0, 1) := by decide +kernel
theorem dX4_cut_1 : decode cX4_cut 1 = .ok (.iconst 0, 1) := by decide +kernel
theorem dX4_cut_2 : decode cX4_cut 2 = .ok (.putfield 39, 3) := by decide +kernel
theorem dX4_cut_5 : decode cX4_cut 5 = .ok (.lload_n 1, 1) := by decide +kernel
theorem dX4_cut_6 : decode cX4_cut 6 = .ok (.aload_n 0, 1) := by decide +kernel
theorem dX4_cut_7 : decode cX4_cut 7 = .ok (.getfield 50, 3) := by decide +kernel
theorem dX4_cut_10 : decode cX4_cut 10 = .ok (.lcmp, 1) := by decide +kernel
theorem dX4_cut_11 : decode cX4_cut 11 = .ok (.ifCond .lt 16, 3) := by decide +kernel
theorem dX4_cut_14 : decode cX4_cut 14 = .ok (.lload_n 1, 1) := by decide +kernel
theorem dX4_cut_15 : decode cX4_cut 15 = .ok (.aload_n 0, 1) := by decide +kernel
theorem dX4_cut_16 : decode cX4_cut 16 = .ok (.getfield 50, 3) := by decide +kernel
theorem dX4_cut_19 : decode cX4_cut 19 = .ok (.lsub, 1) := by decide +kernel
theorem dX4_cut_20 : decode cX4_cut 20 = .ok (.ldc2_w 100, 3) := by decide +kernel
theorem dX4_cut_23 : decode cX4_cut 23 = .ok (.lcmp, 1) := by decide +kernel
theorem dX4_cut_24 : decode cX4_cut 24 = .ok (.ifCond .le 6, 3) := by decide +kernel
theorem dX4_cut_27 : decode cX4_cut 27 = .ok (.bipush (-2), 2) := by decide +kernel
theorem dX4_cut_29 : decode cX4_cut 29 = .ok (.ireturn, 1) := by decide +kernel
theorem dX4_cut_30 : decode cX4_cut 30 = .ok (.aload_n 0, 1) := by decide +kernel
theorem dX4_cut_31 : decode cX4_cut 31 = .ok (.getfield 43, 3) := by decide +kernel
theorem dX4_cut_34 : decode cX4_cut 34 = .ok (.ifCond .ne 6, 3) := by decide +kernel
theorem dX4_cut_37 : decode cX4_cut 37 = .ok (.bipush (-3), 2) := by decide +kernel
theorem dX4_cut_39 : decode cX4_cut 39 = .ok (.ireturn, 1) := by decide +kernel
theorem dX4_cut_40 : decode cX4_cut 40 = .ok (.aload_n 0, 1) := by decide +kernel
theorem dX4_cut_41 : decode cX4_cut 41 = .ok (.lload_n 1, 1) := by decide +kernel
theorem dX4_cut_42 : decode cX4_cut 42 = .ok (.invokevirtual 102, 3) := by decide +kernel
theorem dX4_cut_45 : decode cX4_cut 45 = .ok (.aload_n 0, 1) := by decide +kernel
theorem dX4_cut_46 : decode cX4_cut 46 = .ok (.iconst 0, 1) := by decide +kernel
theorem dX4_cut_47 : decode cX4_cut 47 = .ok (.putfield 43, 3) := by decide +kernel
theorem dX4_cut_50 : decode cX4_cut 50 = .ok (.aload_n 0, 1) := by decide +kernel
theorem dX4_cut_51 : decode cX4_cut 51 = .ok (.dup, 1) := by decide +kernel
theorem dX4_cut_52 : decode cX4_cut 52 = .ok (.getfield 106, 3) := by decide +kernel
theorem dX4_cut_55 : decode cX4_cut 55 = .ok (.lconst 1, 1) := by decide +kernel
theorem dX4_cut_56 : decode cX4_cut 56 = .ok (.ladd, 1) := by decide +kernel
theorem dX4_cut_57 : decode cX4_cut 57 = .ok (.putfield 106, 3) := by decide +kernel
theorem dX4_cut_60 : decode cX4_cut 60 = .ok (.iconst 0, 1) := by decide +kernel
theorem dX4_cut_61 : decode cX4_cut 61 = .ok (.istore_n 3, 1) := by decide +kernel
theorem dX4_cut_62 : decode cX4_cut 62 = .ok (.iconst 0, 1) := by decide +kernel
theorem dX4_cut_63 : decode cX4_cut 63 = .ok (.istore 4, 2) := by decide +kernel
theorem dX4_cut_65 : decode cX4_cut 65 = .ok (.iload 4, 2) := by decide +kernel
theorem dX4_cut_67 : decode cX4_cut 67 = .ok (.bipush 8, 2) := by decide +kernel
theorem dX4_cut_69 : decode cX4_cut 69 = .ok (.if_icmp .ge 27, 3) := by decide +kernel
theorem dX4_cut_72 : decode cX4_cut 72 = .ok (.aload_n 0, 1) := by decide +kernel
theorem dX4_cut_73 : decode cX4_cut 73 = .ok (.getfield 20, 3) := by decide +kernel
theorem dX4_cut_76 : decode cX4_cut 76 = .ok (.iload 4, 2) := by decide +kernel
theorem dX4_cut_78 : decode cX4_cut 78 = .ok (.baload, 1) := by decide +kernel
theorem dX4_cut_79 : decode cX4_cut 79 = .ok (.ifCond .eq 9, 3) := by decide +kernel
theorem dX4_cut_82 : decode cX4_cut 82 = .ok (.iload_n 3, 1) := by decide +kernel
theorem dX4_cut_83 : decode cX4_cut 83 = .ok (.iconst 1, 1) := by decide +kernel
theorem dX4_cut_84 : decode cX4_cut 84 = .ok (.iadd, 1) := by decide +kernel
theorem dX4_cut_85 : decode cX4_cut 85 = .ok (.goto 4, 3) := by decide +kernel
theorem dX4_cut_88 : decode cX4_cut 88 = .ok (.iload_n 3, 1) := by decide +kernel
theorem dX4_cut_89 : decode cX4_cut 89 = .ok (.istore_n 3, 1) := by decide +kernel
theorem dX4_cut_90 : decode cX4_cut 90 = .ok (.iinc 4 1, 3) := by decide +kernel
theorem dX4_cut_93 : decode cX4_cut 93 = .ok (.goto (-28), 3) := by decide +kernel
theorem dX4_cut_96 : decode cX4_cut 96 = .ok (.iload_n 3, 1) := by decide +kernel
theorem dX4_cut_97 : decode cX4_cut 97 = .ok (.ireturn, 1) := by decide +kernel
theorem dX4_nextPart_0 : decode cX4_nextPart 0 = .ok (.iconst 0, 1) := by decide +kernel
theorem dX4_nextPart_1 : decode cX4_nextPart 1 = .ok (.istore_n 3, 1) := by decide +kernel
theorem dX4_nextPart_2 : decode cX4_nextPart 2 = .ok (.iconst 1, 1) := by decide +kernel
theorem dX4_nextPart_3 : decode cX4_nextPart 3 = .ok (.istore 4, 2) := by decide +kernel
theorem dX4_nextPart_5 : decode cX4_nextPart 5 = .ok (.iload 4, 2) := by decide +kernel
theorem dX4_nextPart_7 : decode cX4_nextPart 7 = .ok (.bipush 20, 2) := by decide +kernel
theorem dX4_nextPart_9 : decode cX4_nextPart 9 = .ok (.if_icmp .gt 82, 3) := by decide +kernel
theorem dX4_nextPart_12 : decode cX4_nextPart 12 = .ok (.aload_n 0, 1) := by decide +kernel
theorem dX4_nextPart_13 : decode cX4_nextPart 13 = .ok (.getfield 27, 3) := by decide +kernel
theorem dX4_nextPart_16 : decode cX4_nextPart 16 = .ok (.iload 4, 2) := by decide +kernel
theorem dX4_nextPart_18 : decode cX4_nextPart 18 = .ok (.baload, 1) := by decide +kernel
theorem dX4_nextPart_19 : decode cX4_nextPart 19 = .ok (.ifCond .eq 35, 3) := by decide +kernel
theorem dX4_nextPart_22 : decode cX4_nextPart 22 = .ok (.aload_n 0, 1) := by decide +kernel
theorem dX4_nextPart_23 : decode cX4_nextPart 23 = .ok (.getfield 30, 3) := by decide +kernel
theorem dX4_nextPart_26 : decode cX4_nextPart 26 = .ok (.iload 4, 2) := by decide +kernel
theorem dX4_nextPart_28 : decode cX4_nextPart 28 = .ok (.iaload, 1) := by decide +kernel
theorem dX4_nextPart_29 : decode cX4_nextPart 29 = .ok (.iload_n 1, 1) := by decide +kernel
theorem dX4_nextPart_30 : decode cX4_nextPart 30 = .ok (.if_icmp .gt 20, 3) := by decide +kernel
theorem dX4_nextPart_33 : decode cX4_nextPart 33 = .ok (.aload_n 0, 1) := by decide +kernel
theorem dX4_nextPart_34 : decode cX4_nextPart 34 = .ok (.getfield 30, 3) := by decide +kernel
theorem dX4_nextPart_37 : decode cX4_nextPart 37 = .ok (.iload 4, 2) := by decide +kernel
theorem dX4_nextPart_39 : decode cX4_nextPart 39 = .ok (.iaload, 1) := by decide +kernel
theorem dX4_nextPart_40 : decode cX4_nextPart 40 = .ok (.iload_n 1, 1) := by decide +kernel
theorem dX4_nextPart_41 : decode cX4_nextPart 41 = .ok (.if_icmp .ne 13, 3) := by decide +kernel
theorem dX4_nextPart_44 : decode cX4_nextPart 44 = .ok (.iload 4, 2) := by decide +kernel
theorem dX4_nextPart_46 : decode cX4_nextPart 46 = .ok (.iload_n 2, 1) := by decide +kernel
theorem dX4_nextPart_47 : decode cX4_nextPart 47 = .ok (.if_icmp .le 7, 3) := by decide +kernel
theorem dX4_nextPart_50 : decode cX4_nextPart 50 = .ok (.iconst 1, 1) := by decide +kernel
theorem dX4_nextPart_51 : decode cX4_nextPart 51 = .ok (.goto 4, 3) := by decide +kernel
theorem dX4_nextPart_54 : decode cX4_nextPart 54 = .ok (.iconst 0, 1) := by decide +kernel
theorem dX4_nextPart_55 : decode cX4_nextPart 55 = .ok (.istore 5, 2) := by decide +kernel
theorem dX4_nextPart_57 : decode cX4_nextPart 57 = .ok (.iload 5, 2) := by decide +kernel
theorem dX4_nextPart_59 : decode cX4_nextPart 59 = .ok (.ifCond .eq 26, 3) := by decide +kernel
theorem dX4_nextPart_62 : decode cX4_nextPart 62 = .ok (.iload_n 3, 1) := by decide +kernel
theorem dX4_nextPart_63 : decode cX4_nextPart 63 = .ok (.ifCond .eq 19, 3) := by decide +kernel
theorem dX4_nextPart_66 : decode cX4_nextPart 66 = .ok (.aload_n 0, 1) := by decide +kernel
theorem dX4_nextPart_67 : decode cX4_nextPart 67 = .ok (.getfield 30, 3) := by decide +kernel
theorem dX4_nextPart_70 : decode cX4_nextPart 70 = .ok (.iload 4, 2) := by decide +kernel
theorem dX4_nextPart_72 : decode cX4_nextPart 72 = .ok (.iaload, 1) := by decide +kernel
theorem dX4_nextPart_73 : decode cX4_nextPart 73 = .ok (.aload_n 0, 1) := by decide +kernel
theorem dX4_nextPart_74 : decode cX4_nextPart 74 = .ok (.getfield 30, 3) := by decide +kernel
theorem dX4_nextPart_77 : decode cX4_nextPart 77 = .ok (.iload_n 3, 1) := by decide +kernel
theorem dX4_nextPart_78 : decode cX4_nextPart 78 = .ok (.iaload, 1) := by decide +kernel
theorem dX4_nextPart_79 : decode cX4_nextPart 79 = .ok (.if_icmp .ge 6, 3) := by decide +kernel
theorem dX4_nextPart_82 : decode cX4_nextPart 82 = .ok (.iload 4, 2) := by decide +kernel
theorem dX4_nextPart_84 : decode cX4_nextPart 84 = .ok (.istore_n 3, 1) := by decide +kernel
theorem dX4_nextPart_85 : decode cX4_nextPart 85 = .ok (.iinc 4 1, 3) := by decide +kernel
theorem dX4_nextPart_88 : decode cX4_nextPart 88 = .ok (.goto (-83), 3) := by decide +kernel
theorem dX4_nextPart_91 : decode cX4_nextPart 91 = .ok (.iload_n 3, 1) := by decide +kernel
theorem dX4_nextPart_92 : decode cX4_nextPart 92 = .ok (.ireturn, 1) := by decide +kernel
set_option maxRecDepth 20000 in
theorem ggX4_start_X4_keptCopy : GoodIn wsX4_start wsX4_keptCopy := goodIn_ca (goodIn_r _ [20, 21, 32, 33, 34, 35, 36, 37, 38, 39, 40, 41, 42, 43, 44, 45, 46, 47, 48, 49, 50, 51, 52, 53, 54] (by decide +kernel) (by decide +kernel)) (goodIn_sub (fun _ h => List.mem_cons_of_mem _ (List.mem_append_right _ h)) (by decide +kernel))
set_option maxRecDepth 20000 in
theorem gX4_start_X4_keptCopy : GoodIn wsX4_start (wsV RX4 75 RX4 yX4_keptCopy wsX4_keptCopy) := goodIn_app (goodIn_of _ (by decide +kernel)) ggX4_start_X4_keptCopy
set_option maxRecDepth 20000 in
theorem ggX4_start_X4_nextPart : GoodIn wsX4_start wsX4_nextPart := goodIn_ca (goodIn_r _ [25, 26, 15, 32, 33, 34, 35, 36, 37, 38, 39, 40, 41, 42, 43, 44, 45, 46, 47, 48, 49, 50, 51, 52, 53, 54] (by decide +kernel) (by decide +kernel)) (goodIn_sub (fun _ h => List.mem_cons_of_mem _ (List.mem_append_right _ h)) (by decide +kernel))
set_option maxRecDepth 20000 in
theorem gX4_start_X4_nextPart : GoodIn wsX4_start (wsV RX4 124 RX4 yX4_nextPart wsX4_nextPart) := goodIn_app (goodIn_of _ (by decide +kernel)) ggX4_start_X4_nextPart
set_option maxRecDepth 20000 in
theorem ggX4_start_X4_run : GoodIn wsX4_start wsX4_run := goodIn_r _ [30, 2, 6, 31, 32, 33, 34, 35, 36, 37, 38, 39, 40, 41, 42, 43, 44, 45, 46, 47, 48, 49, 50, 51, 52, 53, 54] (by decide +kernel) (by decide +kernel)
set_option maxRecDepth 20000 in
theorem gX4_start_X4_run : GoodIn wsX4_start (wsV RX4 60 RX4 yX4_run wsX4_run) := goodIn_app (goodIn_of _ (by decide +kernel)) ggX4_start_X4_run
theorem dX4_start_0 : decode cX4_start 0 = .ok (.aload_n 0, 1) := by decide +kernel
theorem dX4_start_1 : decode cX4_start 1 = .ok (.iconst 0, 1) := by decide +kernel
theorem dX4_start_2 : decode cX4_start 2 = .ok (.putfield 39, 3) := by decide +kernel
theorem dX4_start_5 : decode cX4_start 5 = .ok (.aload_n 0, 1) := by decide +kernel
theorem dX4_start_6 : decode cX4_start 6 = .ok (.getfield 43, 3) := by decide +kernel
theorem dX4_start_9 : decode cX4_start 9 = .ok (.ifCond .eq 6, 3) := by decide +kernel
theorem dX4_start_12 : decode cX4_start 12 = .ok (.bipush (-3), 2) := by decide +kernel
theorem dX4_start_14 : decode cX4_start 14 = .ok (.ireturn, 1) := by decide +kernel
theorem dX4_start_15 : decode cX4_start 15 = .ok (.aload_n 0, 1) := by decide +kernel
theorem dX4_start_16 : decode cX4_start 16 = .ok (.aload_n 0, 1) := by decide +kernel
theorem dX4_start_17 : decode cX4_start 17 = .ok (.getfield 109, 3) := by decide +kernel
theorem dX4_start_20 : decode cX4_start 20 = .ok (.putfield 112, 3) := by decide +kernel
theorem dX4_start_23 : decode cX4_start 23 = .ok (.aload_n 0, 1) := by decide +kernel
theorem dX4_start_24 : decode cX4_start 24 = .ok (.dup, 1) := by decide +kernel
theorem dX4_start_25 : decode cX4_start 25 = .ok (.getfield 115, 3) := by decide +kernel
theorem dX4_start_28 : decode cX4_start 28 = .ok (.lconst 1, 1) := by decide +kernel
theorem dX4_start_29 : decode cX4_start 29 = .ok (.ladd, 1) := by decide +kernel
theorem dX4_start_30 : decode cX4_start 30 = .ok (.putfield 115, 3) := by decide +kernel
theorem dX4_start_33 : decode cX4_start 33 = .ok (.aload_n 0, 1) := by decide +kernel
theorem dX4_start_34 : decode cX4_start 34 = .ok (.aload_n 0, 1) := by decide +kernel
theorem dX4_start_35 : decode cX4_start 35 = .ok (.getfield 50, 3) := by decide +kernel
theorem dX4_start_38 : decode cX4_start 38 = .ok (.putfield 118, 3) := by decide +kernel
theorem dX4_start_41 : decode cX4_start 41 = .ok (.iconst 0, 1) := by decide +kernel
theorem dX4_start_42 : decode cX4_start 42 = .ok (.istore_n 1, 1) := by decide +kernel
theorem dX4_start_43 : decode cX4_start 43 = .ok (.iload_n 1, 1) := by decide +kernel
theorem dX4_start_44 : decode cX4_start 44 = .ok (.bipush 8, 2) := by decide +kernel
theorem dX4_start_46 : decode cX4_start 46 = .ok (.if_icmp .ge 60, 3) := by decide +kernel
theorem dX4_start_49 : decode cX4_start 49 = .ok (.aload_n 0, 1) := by decide +kernel
theorem dX4_start_50 : decode cX4_start 50 = .ok (.getfield 20, 3) := by decide +kernel
theorem dX4_start_53 : decode cX4_start 53 = .ok (.iload_n 1, 1) := by decide +kernel
theorem dX4_start_54 : decode cX4_start 54 = .ok (.iconst 0, 1) := by decide +kernel
theorem dX4_start_55 : decode cX4_start 55 = .ok (.bastore, 1) := by decide +kernel
theorem dX4_start_56 : decode cX4_start 56 = .ok (.iconst 0, 1) := by decide +kernel
theorem dX4_start_57 : decode cX4_start 57 = .ok (.istore_n 2, 1) := by decide +kernel
theorem dX4_start_58 : decode cX4_start 58 = .ok (.iload_n 2, 1) := by decide +kernel
theorem dX4_start_59 : decode cX4_start 59 = .ok (.bipush 16, 2) := by decide +kernel
theorem dX4_start_61 : decode cX4_start 61 = .ok (.if_icmp .ge 39, 3) := by decide +kernel
theorem dX4_start_64 : decode cX4_start 64 = .ok (.aload_n 0, 1) := by decide +kernel
theorem dX4_start_65 : decode cX4_start 65 = .ok (.getfield 7, 3) := by decide +kernel
theorem dX4_start_68 : decode cX4_start 68 = .ok (.bipush 16, 2) := by decide +kernel
theorem dX4_start_70 : decode cX4_start 70 = .ok (.iload_n 1, 1) := by decide +kernel
theorem dX4_start_71 : decode cX4_start 71 = .ok (.imul, 1) := by decide +kernel
theorem dX4_start_72 : decode cX4_start 72 = .ok (.iload_n 2, 1) := by decide +kernel
theorem dX4_start_73 : decode cX4_start 73 = .ok (.iadd, 1) := by decide +kernel
theorem dX4_start_74 : decode cX4_start 74 = .ok (.aload_n 0, 1) := by decide +kernel
theorem dX4_start_75 : decode cX4_start 75 = .ok (.getfield 13, 3) := by decide +kernel
theorem dX4_start_78 : decode cX4_start 78 = .ok (.bipush 16, 2) := by decide +kernel
theorem dX4_start_80 : decode cX4_start 80 = .ok (.iconst 2, 1) := by decide +kernel
theorem dX4_start_81 : decode cX4_start 81 = .ok (.iload_n 1, 1) := by decide +kernel
theorem dX4_start_82 : decode cX4_start 82 = .ok (.imul, 1) := by decide +kernel
theorem dX4_start_83 : decode cX4_start 83 = .ok (.aload_n 0, 1) := by decide +kernel
theorem dX4_start_84 : decode cX4_start 84 = .ok (.iload_n 1, 1) := by decide +kernel
theorem dX4_start_85 : decode cX4_start 85 = .ok (.invokevirtual 75, 3) := by decide +kernel
theorem dX4_start_88 : decode cX4_start 88 = .ok (.iadd, 1) := by decide +kernel
theorem dX4_start_89 : decode cX4_start 89 = .ok (.imul, 1) := by decide +kernel
theorem dX4_start_90 : decode cX4_start 90 = .ok (.iload_n 2, 1) := by decide +kernel
theorem dX4_start_91 : decode cX4_start 91 = .ok (.iadd, 1) := by decide +kernel
theorem dX4_start_92 : decode cX4_start 92 = .ok (.baload, 1) := by decide +kernel
theorem dX4_start_93 : decode cX4_start 93 = .ok (.bastore, 1) := by decide +kernel
theorem dX4_start_94 : decode cX4_start 94 = .ok (.iinc 2 1, 3) := by decide +kernel
theorem dX4_start_97 : decode cX4_start 97 = .ok (.goto (-39), 3) := by decide +kernel
theorem dX4_start_100 : decode cX4_start 100 = .ok (.iinc 1 1, 3) := by decide +kernel
theorem dX4_start_103 : decode cX4_start 103 = .ok (.goto (-60), 3) := by decide +kernel
theorem dX4_start_106 : decode cX4_start 106 = .ok (.iconst 1, 1) := by decide +kernel
theorem dX4_start_107 : decode cX4_start 107 = .ok (.istore_n 1, 1) := by decide +kernel
theorem dX4_start_108 : decode cX4_start 108 = .ok (.iload_n 1, 1) := by decide +kernel
theorem dX4_start_109 : decode cX4_start 109 = .ok (.bipush 16, 2) := by decide +kernel
theorem dX4_start_111 : decode cX4_start 111 = .ok (.if_icmp .gt 16, 3) := by decide +kernel
theorem dX4_start_114 : decode cX4_start 114 = .ok (.aload_n 0, 1) := by decide +kernel
theorem dX4_start_115 : decode cX4_start 115 = .ok (.getfield 24, 3) := by decide +kernel
theorem dX4_start_118 : decode cX4_start 118 = .ok (.iload_n 1, 1) := by decide +kernel
theorem dX4_start_119 : decode cX4_start 119 = .ok (.iconst 0, 1) := by decide +kernel
theorem dX4_start_120 : decode cX4_start 120 = .ok (.bastore, 1) := by decide +kernel
theorem dX4_start_121 : decode cX4_start 121 = .ok (.iinc 1 1, 3) := by decide +kernel
theorem dX4_start_124 : decode cX4_start 124 = .ok (.goto (-16), 3) := by decide +kernel
theorem dX4_start_127 : decode cX4_start 127 = .ok (.aload_n 0, 1) := by decide +kernel
theorem dX4_start_128 : decode cX4_start 128 = .ok (.iconst 0, 1) := by decide +kernel
theorem dX4_start_129 : decode cX4_start 129 = .ok (.putfield 121, 3) := by decide +kernel
theorem dX4_start_132 : decode cX4_start 132 = .ok (.aload_n 0, 1) := by decide +kernel
theorem dX4_start_133 : decode cX4_start 133 = .ok (.iconst (-1), 1) := by decide +kernel
theorem dX4_start_134 : decode cX4_start 134 = .ok (.iconst 0, 1) := by decide +kernel
theorem dX4_start_135 : decode cX4_start 135 = .ok (.invokevirtual 124, 3) := by decide +kernel
theorem dX4_start_138 : decode cX4_start 138 = .ok (.istore_n 1, 1) := by decide +kernel
theorem dX4_start_139 : decode cX4_start 139 = .ok (.iconst 0, 1) := by decide +kernel
theorem dX4_start_140 : decode cX4_start 140 = .ok (.istore_n 2, 1) := by decide +kernel
theorem dX4_start_141 : decode cX4_start 141 = .ok (.iload_n 1, 1) := by decide +kernel
theorem dX4_start_142 : decode cX4_start 142 = .ok (.ifCond .le 49, 3) := by decide +kernel
theorem dX4_start_145 : decode cX4_start 145 = .ok (.iload_n 2, 1) := by decide +kernel
theorem dX4_start_146 : decode cX4_start 146 = .ok (.ifCond .ne 45, 3) := by decide +kernel
theorem dX4_start_149 : decode cX4_start 149 = .ok (.aload_n 0, 1) := by decide +kernel
theorem dX4_start_150 : decode cX4_start 150 = .ok (.getfield 36, 3) := by decide +kernel
theorem dX4_start_153 : decode cX4_start 153 = .ok (.aload_n 0, 1) := by decide +kernel
theorem dX4_start_154 : decode cX4_start 154 = .ok (.getfield 121, 3) := by decide +kernel
theorem dX4_start_157 : decode cX4_start 157 = .ok (.iload_n 1, 1) := by decide +kernel
theorem dX4_start_158 : decode cX4_start 158 = .ok (.iastore, 1) := by decide +kernel
theorem dX4_start_159 : decode cX4_start 159 = .ok (.aload_n 0, 1) := by decide +kernel
theorem dX4_start_160 : decode cX4_start 160 = .ok (.dup, 1) := by decide +kernel
theorem dX4_start_161 : decode cX4_start 161 = .ok (.getfield 121, 3) := by decide +kernel
theorem dX4_start_164 : decode cX4_start 164 = .ok (.iconst 1, 1) := by decide +kernel
theorem dX4_start_165 : decode cX4_start 165 = .ok (.iadd, 1) := by decide +kernel
theorem dX4_start_166 : decode cX4_start 166 = .ok (.putfield 121, 3) := by decide +kernel
theorem dX4_start_169 : decode cX4_start 169 = .ok (.aload_n 0, 1) := by decide +kernel
theorem dX4_start_170 : decode cX4_start 170 = .ok (.getfield 33, 3) := by decide +kernel
theorem dX4_start_173 : decode cX4_start 173 = .ok (.iload_n 1, 1) := by decide +kernel
theorem dX4_start_174 : decode cX4_start 174 = .ok (.baload, 1) := by decide +kernel
theorem dX4_start_175 : decode cX4_start 175 = .ok (.istore_n 2, 1) := by decide +kernel
theorem dX4_start_176 : decode cX4_start 176 = .ok (.aload_n 0, 1) := by decide +kernel
theorem dX4_start_177 : decode cX4_start 177 = .ok (.aload_n 0, 1) := by decide +kernel
theorem dX4_start_178 : decode cX4_start 178 = .ok (.getfield 30, 3) := by decide +kernel
theorem dX4_start_181 : decode cX4_start 181 = .ok (.iload_n 1, 1) := by decide +kernel
theorem dX4_start_182 : decode cX4_start 182 = .ok (.iaload, 1) := by decide +kernel
theorem dX4_start_183 : decode cX4_start 183 = .ok (.iload_n 1, 1) := by decide +kernel
theorem dX4_start_184 : decode cX4_start 184 = .ok (.invokevirtual 124, 3) := by decide +kernel
theorem dX4_start_187 : decode cX4_start 187 = .ok (.istore_n 1, 1) := by decide +kernel
theorem dX4_start_188 : decode cX4_start 188 = .ok (.goto (-47), 3) := by decide +kernel
theorem dX4_start_191 : decode cX4_start 191 = .ok (.iload_n 2, 1) := by decide +kernel
theorem dX4_start_192 : decode cX4_start 192 = .ok (.ifCond .ne 12, 3) := by decide +kernel
theorem dX4_start_195 : decode cX4_start 195 = .ok (.aload_n 0, 1) := by decide +kernel
theorem dX4_start_196 : decode cX4_start 196 = .ok (.invokevirtual 60, 3) := by decide +kernel
theorem dX4_start_199 : decode cX4_start 199 = .ok (.aload_n 0, 1) := by decide +kernel
theorem dX4_start_200 : decode cX4_start 200 = .ok (.getfield 43, 3) := by decide +kernel
theorem dX4_start_203 : decode cX4_start 203 = .ok (.ireturn, 1) := by decide +kernel
theorem dX4_start_204 : decode cX4_start 204 = .ok (.aload_n 0, 1) := by decide +kernel
theorem dX4_start_205 : decode cX4_start 205 = .ok (.iconst 5, 1) := by decide +kernel
theorem dX4_start_206 : decode cX4_start 206 = .ok (.putfield 43, 3) := by decide +kernel
theorem dX4_start_209 : decode cX4_start 209 = .ok (.aload_n 0, 1) := by decide +kernel
theorem dX4_start_210 : decode cX4_start 210 = .ok (.getfield 121, 3) := by decide +kernel
theorem dX4_start_213 : decode cX4_start 213 = .ok (.iconst 2, 1) := by decide +kernel
theorem dX4_start_214 : decode cX4_start 214 = .ok (.isub, 1) := by decide +kernel
theorem dX4_start_215 : decode cX4_start 215 = .ok (.istore_n 3, 1) := by decide +kernel
theorem dX4_start_216 : decode cX4_start 216 = .ok (.iload_n 3, 1) := by decide +kernel
theorem dX4_start_217 : decode cX4_start 217 = .ok (.ifCond .lt 35, 3) := by decide +kernel
theorem dX4_start_220 : decode cX4_start 220 = .ok (.aload_n 0, 1) := by decide +kernel
theorem dX4_start_221 : decode cX4_start 221 = .ok (.getfield 36, 3) := by decide +kernel
theorem dX4_start_224 : decode cX4_start 224 = .ok (.aload_n 0, 1) := by decide +kernel
theorem dX4_start_225 : decode cX4_start 225 = .ok (.getfield 121, 3) := by decide +kernel
theorem dX4_start_228 : decode cX4_start 228 = .ok (.aload_n 0, 1) := by decide +kernel
theorem dX4_start_229 : decode cX4_start 229 = .ok (.getfield 36, 3) := by decide +kernel
theorem dX4_start_232 : decode cX4_start 232 = .ok (.iload_n 3, 1) := by decide +kernel
theorem dX4_start_233 : decode cX4_start 233 = .ok (.iaload, 1) := by decide +kernel
theorem dX4_start_234 : decode cX4_start 234 = .ok (.ineg, 1) := by decide +kernel
theorem dX4_start_235 : decode cX4_start 235 = .ok (.iastore, 1) := by decide +kernel
theorem dX4_start_236 : decode cX4_start 236 = .ok (.aload_n 0, 1) := by decide +kernel
theorem dX4_start_237 : decode cX4_start 237 = .ok (.dup, 1) := by decide +kernel
theorem dX4_start_238 : decode cX4_start 238 = .ok (.getfield 121, 3) := by decide +kernel
theorem dX4_start_241 : decode cX4_start 241 = .ok (.iconst 1, 1) := by decide +kernel
theorem dX4_start_242 : decode cX4_start 242 = .ok (.iadd, 1) := by decide +kernel
theorem dX4_start_243 : decode cX4_start 243 = .ok (.putfield 121, 3) := by decide +kernel
theorem dX4_start_246 : decode cX4_start 246 = .ok (.iinc 3 (-1), 3) := by decide +kernel
theorem dX4_start_249 : decode cX4_start 249 = .ok (.goto (-33), 3) := by decide +kernel
theorem dX4_start_252 : decode cX4_start 252 = .ok (.aload_n 0, 1) := by decide +kernel
theorem dX4_start_253 : decode cX4_start 253 = .ok (.getfield 43, 3) := by decide +kernel
theorem dX4_start_256 : decode cX4_start 256 = .ok (.ireturn, 1) := by decide +kernel
set_option maxRecDepth 20000 in
theorem ggX4_kept_X4_keptCopy : GoodIn wsX4_kept wsX4_keptCopy := goodIn_ca (goodIn_r _ [7, 8, 9, 10, 11, 12, 13, 14, 15, 16, 17, 18, 19, 20, 21, 22, 23, 24, 25, 26, 27, 28, 29, 30, 31] (by decide +kernel) (by decide +kernel)) (goodIn_sub (fun _ h => List.mem_cons_of_mem _ (List.mem_append_right _ h)) (by decide +kernel))
set_option maxRecDepth 20000 in
theorem gX4_kept_X4_keptCopy : GoodIn wsX4_kept (wsV RX4 75 RX4 yX4_keptCopy wsX4_keptCopy) := goodIn_app (goodIn_of _ (by decide +kernel)) ggX4_kept_X4_keptCopy
theorem dX4_kept_0 : decode cX4_kept 0 = .ok (.aload_n 0, 1) := by decide +kernel
theorem dX4_kept_1 : decode cX4_kept 1 = .ok (.iload_n 1, 1) := by decide +kernel
theorem dX4_kept_2 : decode cX4_kept 2 = .ok (.ifCond .lt 19, 3) := by decide +kernel
theorem dX4_kept_5 : decode cX4_kept 5 = .ok (.iload_n 1, 1) := by decide +kernel
theorem dX4_kept_6 : decode cX4_kept 6 = .ok (.bipush 8, 2) := by decide +kernel
theorem dX4_kept_8 : decode cX4_kept 8 = .ok (.if_icmp .ge 13, 3) := by decide +kernel
theorem dX4_kept_11 : decode cX4_kept 11 = .ok (.iload_n 2, 1) := by decide +kernel
theorem dX4_kept_12 : decode cX4_kept 12 = .ok (.ifCond .lt 9, 3) := by decide +kernel
theorem dX4_kept_15 : decode cX4_kept 15 = .ok (.iload_n 2, 1) := by decide +kernel
theorem dX4_kept_16 : decode cX4_kept 16 = .ok (.bipush 16, 2) := by decide +kernel
theorem dX4_kept_18 : decode cX4_kept 18 = .ok (.if_icmp .lt 7, 3) := by decide +kernel
theorem dX4_kept_21 : decode cX4_kept 21 = .ok (.iconst 1, 1) := by decide +kernel
theorem dX4_kept_22 : decode cX4_kept 22 = .ok (.goto 4, 3) := by decide +kernel
theorem dX4_kept_25 : decode cX4_kept 25 = .ok (.iconst 0, 1) := by decide +kernel
theorem dX4_kept_26 : decode cX4_kept 26 = .ok (.putfield 39, 3) := by decide +kernel
theorem dX4_kept_29 : decode cX4_kept 29 = .ok (.aload_n 0, 1) := by decide +kernel
theorem dX4_kept_30 : decode cX4_kept 30 = .ok (.getfield 39, 3) := by decide +kernel
theorem dX4_kept_33 : decode cX4_kept 33 = .ok (.ifCond .le 7, 3) := by decide +kernel
theorem dX4_kept_36 : decode cX4_kept 36 = .ok (.iconst 0, 1) := by decide +kernel
theorem dX4_kept_37 : decode cX4_kept 37 = .ok (.goto 22, 3) := by decide +kernel
theorem dX4_kept_40 : decode cX4_kept 40 = .ok (.aload_n 0, 1) := by decide +kernel
theorem dX4_kept_41 : decode cX4_kept 41 = .ok (.getfield 13, 3) := by decide +kernel
theorem dX4_kept_44 : decode cX4_kept 44 = .ok (.bipush 16, 2) := by decide +kernel
theorem dX4_kept_46 : decode cX4_kept 46 = .ok (.iconst 2, 1) := by decide +kernel
theorem dX4_kept_47 : decode cX4_kept 47 = .ok (.iload_n 1, 1) := by decide +kernel
theorem dX4_kept_48 : decode cX4_kept 48 = .ok (.imul, 1) := by decide +kernel
theorem dX4_kept_49 : decode cX4_kept 49 = .ok (.aload_n 0, 1) := by decide +kernel
theorem dX4_kept_50 : decode cX4_kept 50 = .ok (.iload_n 1, 1) := by decide +kernel
theorem dX4_kept_51 : decode cX4_kept 51 = .ok (.invokevirtual 75, 3) := by decide +kernel
theorem dX4_kept_54 : decode cX4_kept 54 = .ok (.iadd, 1) := by decide +kernel
theorem dX4_kept_55 : decode cX4_kept 55 = .ok (.imul, 1) := by decide +kernel
theorem dX4_kept_56 : decode cX4_kept 56 = .ok (.iload_n 2, 1) := by decide +kernel
theorem dX4_kept_57 : decode cX4_kept 57 = .ok (.iadd, 1) := by decide +kernel
theorem dX4_kept_58 : decode cX4_kept 58 = .ok (.baload, 1) := by decide +kernel
theorem dX4_kept_59 : decode cX4_kept 59 = .ok (.ireturn, 1) := by decide +kernel
theorem dX4_bank_0 : decode cX4_bank 0 = .ok (.aload_n 0, 1) := by decide +kernel
theorem dX4_bank_1 : decode cX4_bank 1 = .ok (.iconst 0, 1) := by decide +kernel
theorem dX4_bank_2 : decode cX4_bank 2 = .ok (.putfield 39, 3) := by decide +kernel
theorem dX4_bank_5 : decode cX4_bank 5 = .ok (.aload_n 0, 1) := by decide +kernel
theorem dX4_bank_6 : decode cX4_bank 6 = .ok (.iload_n 1, 1) := by decide +kernel
theorem dX4_bank_7 : decode cX4_bank 7 = .ok (.ifCond .eq 10, 3) := by decide +kernel
theorem dX4_bank_10 : decode cX4_bank 10 = .ok (.aload_n 0, 1) := by decide +kernel
theorem dX4_bank_11 : decode cX4_bank 11 = .ok (.getfield 109, 3) := by decide +kernel
theorem dX4_bank_14 : decode cX4_bank 14 = .ok (.goto 9, 3) := by decide +kernel
theorem dX4_bank_17 : decode cX4_bank 17 = .ok (.iconst 1, 1) := by decide +kernel
theorem dX4_bank_18 : decode cX4_bank 18 = .ok (.aload_n 0, 1) := by decide +kernel
theorem dX4_bank_19 : decode cX4_bank 19 = .ok (.getfield 109, 3) := by decide +kernel
theorem dX4_bank_22 : decode cX4_bank 22 = .ok (.isub, 1) := by decide +kernel
theorem dX4_bank_23 : decode cX4_bank 23 = .ok (.putfield 109, 3) := by decide +kernel
theorem dX4_bank_26 : decode cX4_bank 26 = .ok (.aload_n 0, 1) := by decide +kernel
theorem dX4_bank_27 : decode cX4_bank 27 = .ok (.getfield 109, 3) := by decide +kernel
theorem dX4_bank_30 : decode cX4_bank 30 = .ok (.ireturn, 1) := by decide +kernel
theorem dX4_time_0 : decode cX4_time 0 = .ok (.aload_n 0, 1) := by decide +kernel
theorem dX4_time_1 : decode cX4_time 1 = .ok (.iconst 0, 1) := by decide +kernel
theorem dX4_time_2 : decode cX4_time 2 = .ok (.putfield 39, 3) := by decide +kernel
theorem dX4_time_5 : decode cX4_time 5 = .ok (.iload_n 1, 1) := by decide +kernel
theorem dX4_time_6 : decode cX4_time 6 = .ok (.ifCond .lt 9, 3) := by decide +kernel
theorem dX4_time_9 : decode cX4_time 9 = .ok (.iload_n 1, 1) := by decide +kernel
theorem dX4_time_10 : decode cX4_time 10 = .ok (.bipush 6, 2) := by decide +kernel
theorem dX4_time_12 : decode cX4_time 12 = .ok (.if_icmp .le 7, 3) := by decide +kernel
theorem dX4_time_15 : decode cX4_time 15 = .ok (.ldc2_w 128, 3) := by decide +kernel
theorem dX4_time_18 : decode cX4_time 18 = .ok (.lreturn, 1) := by decide +kernel
theorem dX4_time_19 : decode cX4_time 19 = .ok (.iload_n 1, 1) := by decide +kernel
theorem dX4_time_20 : decode cX4_time 20 = .ok (.iconst 3, 1) := by decide +kernel
theorem dX4_time_21 : decode cX4_time 21 = .ok (.if_icmp .ge 31, 3) := by decide +kernel
theorem dX4_time_24 : decode cX4_time 24 = .ok (.iload_n 1, 1) := by decide +kernel
theorem dX4_time_25 : decode cX4_time 25 = .ok (.ifCond .ne 10, 3) := by decide +kernel
theorem dX4_time_28 : decode cX4_time 28 = .ok (.aload_n 0, 1) := by decide +kernel
theorem dX4_time_29 : decode cX4_time 29 = .ok (.getfield 50, 3) := by decide +kernel
theorem dX4_time_32 : decode cX4_time 32 = .ok (.goto 19, 3) := by decide +kernel
theorem dX4_time_35 : decode cX4_time 35 = .ok (.iload_n 1, 1) := by decide +kernel
theorem dX4_time_36 : decode cX4_time 36 = .ok (.iconst 1, 1) := by decide +kernel
theorem dX4_time_37 : decode cX4_time 37 = .ok (.if_icmp .ne 10, 3) := by decide +kernel
theorem dX4_time_40 : decode cX4_time 40 = .ok (.aload_n 0, 1) := by decide +kernel
theorem dX4_time_41 : decode cX4_time 41 = .ok (.getfield 115, 3) := by decide +kernel
theorem dX4_time_44 : decode cX4_time 44 = .ok (.goto 7, 3) := by decide +kernel
theorem dX4_time_47 : decode cX4_time 47 = .ok (.aload_n 0, 1) := by decide +kernel
theorem dX4_time_48 : decode cX4_time 48 = .ok (.getfield 57, 3) := by decide +kernel
theorem dX4_time_51 : decode cX4_time 51 = .ok (.lreturn, 1) := by decide +kernel
theorem dX4_time_52 : decode cX4_time 52 = .ok (.iload_n 1, 1) := by decide +kernel
theorem dX4_time_53 : decode cX4_time 53 = .ok (.iconst 3, 1) := by decide +kernel
theorem dX4_time_54 : decode cX4_time 54 = .ok (.if_icmp .ne 10, 3) := by decide +kernel
theorem dX4_time_57 : decode cX4_time 57 = .ok (.aload_n 0, 1) := by decide +kernel
theorem dX4_time_58 : decode cX4_time 58 = .ok (.getfield 66, 3) := by decide +kernel
theorem dX4_time_61 : decode cX4_time 61 = .ok (.goto 32, 3) := by decide +kernel
theorem dX4_time_64 : decode cX4_time 64 = .ok (.iload_n 1, 1) := by decide +kernel
theorem dX4_time_65 : decode cX4_time 65 = .ok (.iconst 4, 1) := by decide +kernel
theorem dX4_time_66 : decode cX4_time 66 = .ok (.if_icmp .ne 10, 3) := by decide +kernel
theorem dX4_time_69 : decode cX4_time 69 = .ok (.aload_n 0, 1) := by decide +kernel
theorem dX4_time_70 : decode cX4_time 70 = .ok (.getfield 106, 3) := by decide +kernel
theorem dX4_time_73 : decode cX4_time 73 = .ok (.goto 20, 3) := by decide +kernel
theorem dX4_time_76 : decode cX4_time 76 = .ok (.iload_n 1, 1) := by decide +kernel
theorem dX4_time_77 : decode cX4_time 77 = .ok (.iconst 5, 1) := by decide +kernel
theorem dX4_time_78 : decode cX4_time 78 = .ok (.if_icmp .ne 10, 3) := by decide +kernel
theorem dX4_time_81 : decode cX4_time 81 = .ok (.aload_n 0, 1) := by decide +kernel
theorem dX4_time_82 : decode cX4_time 82 = .ok (.getfield 118, 3) := by decide +kernel
theorem dX4_time_85 : decode cX4_time 85 = .ok (.goto 8, 3) := by decide +kernel
theorem dX4_time_88 : decode cX4_time 88 = .ok (.aload_n 0, 1) := by decide +kernel
theorem dX4_time_89 : decode cX4_time 89 = .ok (.getfield 112, 3) := by decide +kernel
theorem dX4_time_92 : decode cX4_time 92 = .ok (.i2l, 1) := by decide +kernel
theorem dX4_time_93 : decode cX4_time 93 = .ok (.lreturn, 1) := by decide +kernel
theorem dX4_order_0 : decode cX4_order 0 = .ok (.aload_n 0, 1) := by decide +kernel
theorem dX4_order_1 : decode cX4_order 1 = .ok (.iconst 0, 1) := by decide +kernel
theorem dX4_order_2 : decode cX4_order 2 = .ok (.putfield 39, 3) := by decide +kernel
theorem dX4_order_5 : decode cX4_order 5 = .ok (.iload_n 1, 1) := by decide +kernel
theorem dX4_order_6 : decode cX4_order 6 = .ok (.ifCond .lt 11, 3) := by decide +kernel
theorem dX4_order_9 : decode cX4_order 9 = .ok (.iload_n 1, 1) := by decide +kernel
theorem dX4_order_10 : decode cX4_order 10 = .ok (.aload_n 0, 1) := by decide +kernel
theorem dX4_order_11 : decode cX4_order 11 = .ok (.getfield 121, 3) := by decide +kernel
theorem dX4_order_14 : decode cX4_order 14 = .ok (.if_icmp .lt 7, 3) := by decide +kernel
theorem dX4_order_17 : decode cX4_order 17 = .ok (.iconst 0, 1) := by decide +kernel
theorem dX4_order_18 : decode cX4_order 18 = .ok (.goto 9, 3) := by decide +kernel
theorem dX4_order_21 : decode cX4_order 21 = .ok (.aload_n 0, 1) := by decide +kernel
theorem dX4_order_22 : decode cX4_order 22 = .ok (.getfield 36, 3) := by decide +kernel
theorem dX4_order_25 : decode cX4_order 25 = .ok (.iload_n 1, 1) := by decide +kernel
theorem dX4_order_26 : decode cX4_order 26 = .ok (.iaload, 1) := by decide +kernel
