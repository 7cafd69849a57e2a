theorem dX1_placeBehind_15 : decode cX1_placeBehind 15 = .ok (.baload, 1) := by decide +kernel
theorem dX1_placeBehind_16 : decode cX1_placeBehind 16 = .ok (.ifCond .eq 35, 3) := by decide +kernel
theorem dX1_placeBehind_19 : decode cX1_placeBehind 19 = .ok (.aload_n 0, 1) := by decide +kernel
theorem dX1_placeBehind_20 : decode cX1_placeBehind 20 = .ok (.getfield 13, 3) := by decide +kernel
theorem dX1_placeBehind_23 : decode cX1_placeBehind 23 = .ok (.iload_n 3, 1) := by decide +kernel
theorem dX1_placeBehind_24 : decode cX1_placeBehind 24 = .ok (.iaload, 1) := by decide +kernel
theorem dX1_placeBehind_25 : decode cX1_placeBehind 25 = .ok (.iload_n 1, 1) := by decide +kernel
theorem dX1_placeBehind_26 : decode cX1_placeBehind 26 = .ok (.if_icmp .le 25, 3) := by decide +kernel
theorem dX1_placeBehind_29 : decode cX1_placeBehind 29 = .ok (.iload_n 2, 1) := by decide +kernel
theorem dX1_placeBehind_30 : decode cX1_placeBehind 30 = .ok (.iconst (-1), 1) := by decide +kernel
theorem dX1_placeBehind_31 : decode cX1_placeBehind 31 = .ok (.if_icmp .eq 13, 3) := by decide +kernel
theorem dX1_placeBehind_34 : decode cX1_placeBehind 34 = .ok (.aload_n 0, 1) := by decide +kernel
theorem dX1_placeBehind_35 : decode cX1_placeBehind 35 = .ok (.getfield 13, 3) := by decide +kernel
theorem dX1_placeBehind_38 : decode cX1_placeBehind 38 = .ok (.iload_n 3, 1) := by decide +kernel
theorem dX1_placeBehind_39 : decode cX1_placeBehind 39 = .ok (.iaload, 1) := by decide +kernel
theorem dX1_placeBehind_40 : decode cX1_placeBehind 40 = .ok (.iload_n 2, 1) := by decide +kernel
theorem dX1_placeBehind_41 : decode cX1_placeBehind 41 = .ok (.if_icmp .ge 10, 3) := by decide +kernel
theorem dX1_placeBehind_44 : decode cX1_placeBehind 44 = .ok (.aload_n 0, 1) := by decide +kernel
theorem dX1_placeBehind_45 : decode cX1_placeBehind 45 = .ok (.getfield 13, 3) := by decide +kernel
theorem dX1_placeBehind_48 : decode cX1_placeBehind 48 = .ok (.iload_n 3, 1) := by decide +kernel
theorem dX1_placeBehind_49 : decode cX1_placeBehind 49 = .ok (.iaload, 1) := by decide +kernel
theorem dX1_placeBehind_50 : decode cX1_placeBehind 50 = .ok (.istore_n 2, 1) := by decide +kernel
theorem dX1_placeBehind_51 : decode cX1_placeBehind 51 = .ok (.iinc 3 1, 3) := by decide +kernel
theorem dX1_placeBehind_54 : decode cX1_placeBehind 54 = .ok (.goto (-50), 3) := by decide +kernel
theorem dX1_placeBehind_57 : decode cX1_placeBehind 57 = .ok (.iload_n 2, 1) := by decide +kernel
theorem dX1_placeBehind_58 : decode cX1_placeBehind 58 = .ok (.ireturn, 1) := by decide +kernel
set_option maxRecDepth 20000 in
theorem ggX1_endThoseBeforeTheLast_X1_thing : GoodIn wsX1_endThoseBeforeTheLast wsX1_thing := goodIn_ca (goodIn_r _ [6, 1, 7, 12, 13, 14, 15, 16, 17] (by decide +kernel) (by decide +kernel)) (goodIn_sub (fun _ h => List.mem_cons_of_mem _ (List.mem_append_right _ h)) (by decide +kernel))
set_option maxRecDepth 20000 in
theorem gX1_endThoseBeforeTheLast_X1_thing : GoodIn wsX1_endThoseBeforeTheLast (wsV RX1 45 RX1 yX1_thing wsX1_thing) := goodIn_app (goodIn_of _ (by decide +kernel)) ggX1_endThoseBeforeTheLast_X1_thing
set_option maxRecDepth 20000 in
theorem ggX1_endThoseBeforeTheLast_X1_note : GoodIn wsX1_endThoseBeforeTheLast wsX1_note := goodIn_ca (goodIn_r _ [11, 1, 7, 12, 13, 14, 15, 16, 17] (by decide +kernel) (by decide +kernel)) (goodIn_sub (fun _ h => List.mem_cons_of_mem _ (List.mem_append_right _ h)) (by decide +kernel))
set_option maxRecDepth 20000 in
theorem gX1_endThoseBeforeTheLast_X1_note : GoodIn wsX1_endThoseBeforeTheLast (wsV RX1 38 RX1 yX1_note wsX1_note) := goodIn_app (goodIn_of _ (by decide +kernel)) ggX1_endThoseBeforeTheLast_X1_note
theorem dX1_endThoseBeforeTheLast_0 : decode cX1_endThoseBeforeTheLast 0 = .ok (.aload_n 0, 1) := by decide +kernel
theorem dX1_endThoseBeforeTheLast_1 : decode cX1_endThoseBeforeTheLast 1 = .ok (.getfield 31, 3) := by decide +kernel
theorem dX1_endThoseBeforeTheLast_4 : decode cX1_endThoseBeforeTheLast 4 = .ok (.iconst 2, 1) := by decide +kernel
theorem dX1_endThoseBeforeTheLast_5 : decode cX1_endThoseBeforeTheLast 5 = .ok (.isub, 1) := by decide +kernel
theorem dX1_endThoseBeforeTheLast_6 : decode cX1_endThoseBeforeTheLast 6 = .ok (.istore_n 1, 1) := by decide +kernel
theorem dX1_endThoseBeforeTheLast_7 : decode cX1_endThoseBeforeTheLast 7 = .ok (.iload_n 1, 1) := by decide +kernel
theorem dX1_endThoseBeforeTheLast_8 : decode cX1_endThoseBeforeTheLast 8 = .ok (.ifCond .lt 19, 3) := by decide +kernel
theorem dX1_endThoseBeforeTheLast_11 : decode cX1_endThoseBeforeTheLast 11 = .ok (.aload_n 0, 1) := by decide +kernel
theorem dX1_endThoseBeforeTheLast_12 : decode cX1_endThoseBeforeTheLast 12 = .ok (.aload_n 0, 1) := by decide +kernel
theorem dX1_endThoseBeforeTheLast_13 : decode cX1_endThoseBeforeTheLast 13 = .ok (.iload_n 1, 1) := by decide +kernel
theorem dX1_endThoseBeforeTheLast_14 : decode cX1_endThoseBeforeTheLast 14 = .ok (.invokevirtual 45, 3) := by decide +kernel
theorem dX1_endThoseBeforeTheLast_17 : decode cX1_endThoseBeforeTheLast 17 = .ok (.ineg, 1) := by decide +kernel
theorem dX1_endThoseBeforeTheLast_18 : decode cX1_endThoseBeforeTheLast 18 = .ok (.invokevirtual 38, 3) := by decide +kernel
theorem dX1_endThoseBeforeTheLast_21 : decode cX1_endThoseBeforeTheLast 21 = .ok (.iinc 1 (-1), 3) := by decide +kernel
theorem dX1_endThoseBeforeTheLast_24 : decode cX1_endThoseBeforeTheLast 24 = .ok (.goto (-17), 3) := by decide +kernel
theorem dX1_endThoseBeforeTheLast_27 : decode cX1_endThoseBeforeTheLast 27 = .ok (.return_, 1) := by decide +kernel
theorem dX1_note_0 : decode cX1_note 0 = .ok (.aload_n 0, 1) := by decide +kernel
theorem dX1_note_1 : decode cX1_note 1 = .ok (.getfield 31, 3) := by decide +kernel
theorem dX1_note_4 : decode cX1_note 4 = .ok (.ifCond .lt 35, 3) := by decide +kernel
theorem dX1_note_7 : decode cX1_note 7 = .ok (.aload_n 0, 1) := by decide +kernel
theorem dX1_note_8 : decode cX1_note 8 = .ok (.getfield 31, 3) := by decide +kernel
theorem dX1_note_11 : decode cX1_note 11 = .ok (.aload_n 0, 1) := by decide +kernel
theorem dX1_note_12 : decode cX1_note 12 = .ok (.getfield 20, 3) := by decide +kernel
theorem dX1_note_15 : decode cX1_note 15 = .ok (.arraylength, 1) := by decide +kernel
theorem dX1_note_16 : decode cX1_note 16 = .ok (.if_icmp .ge 23, 3) := by decide +kernel
theorem dX1_note_19 : decode cX1_note 19 = .ok (.aload_n 0, 1) := by decide +kernel
theorem dX1_note_20 : decode cX1_note 20 = .ok (.getfield 20, 3) := by decide +kernel
theorem dX1_note_23 : decode cX1_note 23 = .ok (.aload_n 0, 1) := by decide +kernel
theorem dX1_note_24 : decode cX1_note 24 = .ok (.getfield 31, 3) := by decide +kernel
theorem dX1_note_27 : decode cX1_note 27 = .ok (.iload_n 1, 1) := by decide +kernel
theorem dX1_note_28 : decode cX1_note 28 = .ok (.iastore, 1) := by decide +kernel
theorem dX1_note_29 : decode cX1_note 29 = .ok (.aload_n 0, 1) := by decide +kernel
theorem dX1_note_30 : decode cX1_note 30 = .ok (.dup, 1) := by decide +kernel
theorem dX1_note_31 : decode cX1_note 31 = .ok (.getfield 31, 3) := by decide +kernel
theorem dX1_note_34 : decode cX1_note 34 = .ok (.iconst 1, 1) := by decide +kernel
theorem dX1_note_35 : decode cX1_note 35 = .ok (.iadd, 1) := by decide +kernel
theorem dX1_note_36 : decode cX1_note 36 = .ok (.putfield 31, 3) := by decide +kernel
theorem dX1_note_39 : decode cX1_note 39 = .ok (.return_, 1) := by decide +kernel
theorem dX2_init_0 : decode cX2_init 0 = .ok (.aload_n 0, 1) := by decide +kernel
theorem dX2_init_1 : decode cX2_init 1 = .ok (.invokespecial 1, 3) := by decide +kernel
theorem dX2_init_4 : decode cX2_init 4 = .ok (.aload_n 0, 1) := by decide +kernel
theorem dX2_init_5 : decode cX2_init 5 = .ok (.bipush 17, 2) := by decide +kernel
theorem dX2_init_7 : decode cX2_init 7 = .ok (.newarray .boolean, 2) := by decide +kernel
theorem dX2_init_9 : decode cX2_init 9 = .ok (.putfield 9, 3) := by decide +kernel
theorem dX2_init_12 : decode cX2_init 12 = .ok (.return_, 1) := by decide +kernel
theorem dX2_has_0 : decode cX2_has 0 = .ok (.iload_n 0, 1) := by decide +kernel
theorem dX2_has_1 : decode cX2_has 1 = .ok (.iconst 1, 1) := by decide +kernel
theorem dX2_has_2 : decode cX2_has 2 = .ok (.if_icmp .lt 13, 3) := by decide +kernel
theorem dX2_has_5 : decode cX2_has 5 = .ok (.iload_n 0, 1) := by decide +kernel
theorem dX2_has_6 : decode cX2_has 6 = .ok (.bipush 16, 2) := by decide +kernel
theorem dX2_has_8 : decode cX2_has 8 = .ok (.if_icmp .gt 7, 3) := by decide +kernel
theorem dX2_has_11 : decode cX2_has 11 = .ok (.iconst 1, 1) := by decide +kernel
theorem dX2_has_12 : decode cX2_has 12 = .ok (.goto 4, 3) := by decide +kernel
theorem dX2_has_15 : decode cX2_has 15 = .ok (.iconst 0, 1) := by decide +kernel
theorem dX2_has_16 : decode cX2_has 16 = .ok (.ireturn, 1) := by decide +kernel
theorem dX2_howMany_0 : decode cX2_howMany 0 = .ok (.aload_n 0, 1) := by decide +kernel
theorem dX2_howMany_1 : decode cX2_howMany 1 = .ok (.getfield 13, 3) := by decide +kernel
theorem dX2_howMany_4 : decode cX2_howMany 4 = .ok (.ireturn, 1) := by decide +kernel
set_option maxRecDepth 20000 in
theorem ggX2_set_X2_has : GoodIn wsX2_set wsX2_has := goodIn_r _ [6] (by decide +kernel) (by decide +kernel)
set_option maxRecDepth 20000 in
theorem gX2_set_X2_has : GoodIn wsX2_set (va_wsS RX2 17 yX2_has wsX2_has) := goodIn_app (goodIn_of _ (by decide +kernel)) ggX2_set_X2_has
theorem dX2_set_0 : decode cX2_set 0 = .ok (.iload_n 1, 1) := by decide +kernel
theorem dX2_set_1 : decode cX2_set 1 = .ok (.invokestatic 17, 3) := by decide +kernel
theorem dX2_set_4 : decode cX2_set 4 = .ok (.ifCond .eq 13, 3) := by decide +kernel
theorem dX2_set_7 : decode cX2_set 7 = .ok (.aload_n 0, 1) := by decide +kernel
theorem dX2_set_8 : decode cX2_set 8 = .ok (.getfield 9, 3) := by decide +kernel
theorem dX2_set_11 : decode cX2_set 11 = .ok (.iload_n 1, 1) := by decide +kernel
theorem dX2_set_12 : decode cX2_set 12 = .ok (.baload, 1) := by decide +kernel
theorem dX2_set_13 : decode cX2_set 13 = .ok (.iload_n 2, 1) := by decide +kernel
theorem dX2_set_14 : decode cX2_set 14 = .ok (.if_icmp .ne 5, 3) := by decide +kernel
theorem dX2_set_17 : decode cX2_set 17 = .ok (.iconst 0, 1) := by decide +kernel
theorem dX2_set_18 : decode cX2_set 18 = .ok (.ireturn, 1) := by decide +kernel
theorem dX2_set_19 : decode cX2_set 19 = .ok (.aload_n 0, 1) := by decide +kernel
theorem dX2_set_20 : decode cX2_set 20 = .ok (.getfield 9, 3) := by decide +kernel
theorem dX2_set_23 : decode cX2_set 23 = .ok (.iload_n 1, 1) := by decide +kernel
theorem dX2_set_24 : decode cX2_set 24 = .ok (.iload_n 2, 1) := by decide +kernel
theorem dX2_set_25 : decode cX2_set 25 = .ok (.bastore, 1) := by decide +kernel
theorem dX2_set_26 : decode cX2_set 26 = .ok (.aload_n 0, 1) := by decide +kernel
theorem dX2_set_27 : decode cX2_set 27 = .ok (.dup, 1) := by decide +kernel
theorem dX2_set_28 : decode cX2_set 28 = .ok (.getfield 13, 3) := by decide +kernel
theorem dX2_set_31 : decode cX2_set 31 = .ok (.iload_n 2, 1) := by decide +kernel
theorem dX2_set_32 : decode cX2_set 32 = .ok (.ifCond .eq 7, 3) := by decide +kernel
theorem dX2_set_35 : decode cX2_set 35 = .ok (.iconst 1, 1) := by decide +kernel
theorem dX2_set_36 : decode cX2_set 36 = .ok (.goto 4, 3) := by decide +kernel
theorem dX2_set_39 : decode cX2_set 39 = .ok (.iconst (-1), 1) := by decide +kernel
theorem dX2_set_40 : decode cX2_set 40 = .ok (.iadd, 1) := by decide +kernel
theorem dX2_set_41 : decode cX2_set 41 = .ok (.putfield 13, 3) := by decide +kernel
theorem dX2_set_44 : decode cX2_set 44 = .ok (.iconst 1, 1) := by decide +kernel
theorem dX2_set_45 : decode cX2_set 45 = .ok (.ireturn, 1) := by decide +kernel
theorem dX2_clear_0 : decode cX2_clear 0 = .ok (.iconst 0, 1) := by decide +kernel
theorem dX2_clear_1 : decode cX2_clear 1 = .ok (.istore_n 1, 1) := by decide +kernel
theorem dX2_clear_2 : decode cX2_clear 2 = .ok (.iload_n 1, 1) := by decide +kernel
theorem dX2_clear_3 : decode cX2_clear 3 = .ok (.aload_n 0, 1) := by decide +kernel
theorem dX2_clear_4 : decode cX2_clear 4 = .ok (.getfield 9, 3) := by decide +kernel
theorem dX2_clear_7 : decode cX2_clear 7 = .ok (.arraylength, 1) := by decide +kernel
theorem dX2_clear_8 : decode cX2_clear 8 = .ok (.if_icmp .ge 16, 3) := by decide +kernel
theorem dX2_clear_11 : decode cX2_clear 11 = .ok (.aload_n 0, 1) := by decide +kernel
theorem dX2_clear_12 : decode cX2_clear 12 = .ok (.getfield 9, 3) := by decide +kernel
theorem dX2_clear_15 : decode cX2_clear 15 = .ok (.iload_n 1, 1) := by decide +kernel
theorem dX2_clear_16 : decode cX2_clear 16 = .ok (.iconst 0, 1) := by decide +kernel
theorem dX2_clear_17 : decode cX2_clear 17 = .ok (.bastore, 1) := by decide +kernel
theorem dX2_clear_18 : decode cX2_clear 18 = .ok (.iinc 1 1, 3) := by decide +kernel
theorem dX2_clear_21 : decode cX2_clear 21 = .ok (.goto (-19), 3) := by decide +kernel
theorem dX2_clear_24 : decode cX2_clear 24 = .ok (.aload_n 0, 1) := by decide +kernel
theorem dX2_clear_25 : decode cX2_clear 25 = .ok (.iconst 0, 1) := by decide +kernel
theorem dX2_clear_26 : decode cX2_clear 26 = .ok (.putfield 13, 3) := by decide +kernel
theorem dX2_clear_29 : decode cX2_clear 29 = .ok (.return_, 1) := by decide +kernel
set_option maxRecDepth 20000 in
theorem ggX3_init_X2_init : GoodIn wsX3_init wsX2_init := goodIn_r _ [22, 23, 2, 3, 24, 25, 46, 47] (by decide +kernel) (by decide +kernel)
set_option maxRecDepth 20000 in
theorem gX3_init_X2_init : GoodIn wsX3_init (wsX2_init) := ggX3_init_X2_init
set_option maxRecDepth 20000 in
theorem ggX3_init_X0_init : GoodIn wsX3_init wsX0_init := goodIn_r _ [28, 29, 2, 3, 30, 31, 32, 33, 34, 35, 36, 24, 37, 62, 63, 64, 65] (by decide +kernel) (by decide +kernel)
set_option maxRecDepth 20000 in
theorem gX3_init_X0_init : GoodIn wsX3_init (wsX0_init) := ggX3_init_X0_init
set_option maxRecDepth 20000 in
theorem ggX3_init_X1_init : GoodIn wsX3_init wsX1_init := goodIn_r _ [40, 41, 2, 3, 24, 42, 35, 43, 44, 45, 66, 67, 68, 69, 70, 71] (by decide +kernel) (by decide +kernel)
set_option maxRecDepth 20000 in
theorem gX3_init_X1_init : GoodIn wsX3_init (wsX1_init) := ggX3_init_X1_init
theorem dX3_init_0 : decode cX3_init 0 = .ok (.aload_n 0, 1) := by decide +kernel
theorem dX3_init_1 : decode cX3_init 1 = .ok (.invokespecial 1, 3) := by decide +kernel
theorem dX3_init_4 : decode cX3_init 4 = .ok (.aload_n 0, 1) := by decide +kernel
theorem dX3_init_5 : decode cX3_init 5 = .ok (.new 7, 3) := by decide +kernel
theorem dX3_init_8 : decode cX3_init 8 = .ok (.dup, 1) := by decide +kernel
theorem dX3_init_9 : decode cX3_init 9 = .ok (.invokespecial 9, 3) := by decide +kernel
theorem dX3_init_12 : decode cX3_init 12 = .ok (.putfield 10, 3) := by decide +kernel
theorem dX3_init_15 : decode cX3_init 15 = .ok (.aload_n 0, 1) := by decide +kernel
theorem dX3_init_16 : decode cX3_init 16 = .ok (.new 16, 3) := by decide +kernel
theorem dX3_init_19 : decode cX3_init 19 = .ok (.dup, 1) := by decide +kernel
theorem dX3_init_20 : decode cX3_init 20 = .ok (.invokespecial 18, 3) := by decide +kernel
theorem dX3_init_23 : decode cX3_init 23 = .ok (.putfield 19, 3) := by decide +kernel
theorem dX3_init_26 : decode cX3_init 26 = .ok (.aload_n 0, 1) := by decide +kernel
theorem dX3_init_27 : decode cX3_init 27 = .ok (.new 23, 3) := by decide +kernel
theorem dX3_init_30 : decode cX3_init 30 = .ok (.dup, 1) := by decide +kernel
theorem dX3_init_31 : decode cX3_init 31 = .ok (.invokespecial 25, 3) := by decide +kernel
theorem dX3_init_34 : decode cX3_init 34 = .ok (.putfield 26, 3) := by decide +kernel
theorem dX3_init_37 : decode cX3_init 37 = .ok (.aload_n 0, 1) := by decide +kernel
theorem dX3_init_38 : decode cX3_init 38 = .ok (.iconst 0, 1) := by decide +kernel
theorem dX3_init_39 : decode cX3_init 39 = .ok (.putfield 30, 3) := by decide +kernel
theorem dX3_init_42 : decode cX3_init 42 = .ok (.aload_n 0, 1) := by decide +kernel
theorem dX3_init_43 : decode cX3_init 43 = .ok (.ldc2_w 34, 3) := by decide +kernel
theorem dX3_init_46 : decode cX3_init 46 = .ok (.putfield 36, 3) := by decide +kernel
theorem dX3_init_49 : decode cX3_init 49 = .ok (.aload_n 0, 1) := by decide +kernel
theorem dX3_init_50 : decode cX3_init 50 = .ok (.iconst (-1), 1) := by decide +kernel
theorem dX3_init_51 : decode cX3_init 51 = .ok (.putfield 40, 3) := by decide +kernel
theorem dX3_init_54 : decode cX3_init 54 = .ok (.return_, 1) := by decide +kernel
set_option maxRecDepth 20000 in
theorem ggX3_user_X2_howMany : GoodIn wsX3_user wsX2_howMany := goodIn_r _ [6, 7, 22, 23] (by decide +kernel) (by decide +kernel)
set_option maxRecDepth 20000 in
theorem gX3_user_X2_howMany : GoodIn wsX3_user (wsV RX3 43 RX2 yX2_howMany wsX2_howMany) := goodIn_app (goodIn_of _ (by decide +kernel)) ggX3_user_X2_howMany
theorem dX3_user_0 : decode cX3_user 0 = .ok (.aload_n 0, 1) := by decide +kernel
theorem dX3_user_1 : decode cX3_user 1 = .ok (.getfield 10, 3) := by decide +kernel
theorem dX3_user_4 : decode cX3_user 4 = .ok (.invokevirtual 43, 3) := by decide +kernel
theorem dX3_user_7 : decode cX3_user 7 = .ok (.ireturn, 1) := by decide +kernel
set_option maxRecDepth 20000 in
theorem ggX3_request_X2_has : GoodIn wsX3_request wsX2_has := goodIn_r _ [6] (by decide +kernel) (by decide +kernel)
set_option maxRecDepth 20000 in
theorem gX3_request_X2_has : GoodIn wsX3_request (va_wsS RX3 47 yX2_has wsX2_has) := goodIn_app (goodIn_of _ (by decide +kernel)) ggX3_request_X2_has
set_option maxRecDepth 20000 in
theorem ggX3_request_X2_set : GoodIn wsX3_request wsX2_set := goodIn_ca (goodIn_r _ [10, 11, 12, 13, 4, 5, 6, 41, 42] (by decide +kernel) (by decide +kernel)) (goodIn_sub (fun _ h => List.mem_cons_of_mem _ (List.mem_append_right _ h)) (by decide +kernel))
set_option maxRecDepth 20000 in
theorem gX3_request_X2_set : GoodIn wsX3_request (wsV RX3 51 RX2 yX2_set wsX2_set) := goodIn_app (goodIn_of _ (by decide +kernel)) ggX3_request_X2_set
set_option maxRecDepth 20000 in
theorem ggX3_request_X3_awaitIdleness : GoodIn wsX3_request wsX3_awaitIdleness := goodIn_r _ [18, 2, 19, 20, 21, 22, 23, 24, 25, 5, 26, 12, 27, 28, 29, 30, 31, 32, 33, 34, 35, 36, 37, 38, 39, 40, 41, 42] (by decide +kernel) (by decide +kernel)
set_option maxRecDepth 20000 in
theorem gX3_request_X3_awaitIdleness : GoodIn wsX3_request (wsV RX3 55 RX3 yX3_awaitIdleness wsX3_awaitIdleness) := goodIn_app (goodIn_of _ (by decide +kernel)) ggX3_request_X3_awaitIdleness
set_option maxRecDepth 20000 in
theorem ggX3_request_X2_howMany : GoodIn wsX3_request wsX2_howMany := goodIn_r _ [26, 12, 41, 42] (by decide +kernel) (by decide +kernel)
set_option maxRecDepth 20000 in
theorem gX3_request_X2_howMany : GoodIn wsX3_request (wsV RX3 43 RX2 yX2_howMany wsX2_howMany) := goodIn_app (goodIn_of _ (by decide +kernel)) ggX3_request_X2_howMany
theorem dX3_request_0 : decode cX3_request 0 = .ok (.iload_n 1, 1) := by decide +kernel
theorem dX3_request_1 : decode cX3_request 1 = .ok (.invokestatic 47, 3) := by decide +kernel
theorem dX3_request_4 : decode cX3_request 4 = .ok (.ifCond .ne 5, 3) := by decide +kernel
theorem dX3_request_7 : decode cX3_request 7 = .ok (.iconst (-1), 1) := by decide +kernel
theorem dX3_request_8 : decode cX3_request 8 = .ok (.ireturn, 1) := by decide +kernel
theorem dX3_request_9 : decode cX3_request 9 = .ok (.aload_n 0, 1) := by decide +kernel
theorem dX3_request_10 : decode cX3_request 10 = .ok (.getfield 30, 3) := by decide +kernel
theorem dX3_request_13 : decode cX3_request 13 = .ok (.ifCond .eq 19, 3) := by decide +kernel
theorem dX3_request_16 : decode cX3_request 16 = .ok (.aload_n 0, 1) := by decide +kernel
theorem dX3_request_17 : decode cX3_request 17 = .ok (.getfield 30, 3) := by decide +kernel
theorem dX3_request_20 : decode cX3_request 20 = .ok (.iconst 3, 1) := by decide +kernel
theorem dX3_request_21 : decode cX3_request 21 = .ok (.if_icmp .eq 11, 3) := by decide +kernel
theorem dX3_request_24 : decode cX3_request 24 = .ok (.aload_n 0, 1) := by decide +kernel
theorem dX3_request_25 : decode cX3_request 25 = .ok (.getfield 30, 3) := by decide +kernel
theorem dX3_request_28 : decode cX3_request 28 = .ok (.iconst 5, 1) := by decide +kernel
theorem dX3_request_29 : decode cX3_request 29 = .ok (.if_icmp .ne 6, 3) := by decide +kernel
theorem dX3_request_32 : decode cX3_request 32 = .ok (.bipush (-3), 2) := by decide +kernel
theorem dX3_request_34 : decode cX3_request 34 = .ok (.ireturn, 1) := by decide +kernel
theorem dX3_request_35 : decode cX3_request 35 = .ok (.aload_n 0, 1) := by decide +kernel
theorem dX3_request_36 : decode cX3_request 36 = .ok (.getfield 10, 3) := by decide +kernel
theorem dX3_request_39 : decode cX3_request 39 = .ok (.iload_n 1, 1) := by decide +kernel
theorem dX3_request_40 : decode cX3_request 40 = .ok (.iload_n 2, 1) := by decide +kernel
theorem dX3_request_41 : decode cX3_request 41 = .ok (.invokevirtual 51, 3) := by decide +kernel
theorem dX3_request_44 : decode cX3_request 44 = .ok (.istore_n 3, 1) := by decide +kernel
theorem dX3_request_45 : decode cX3_request 45 = .ok (.iload_n 3, 1) := by decide +kernel
theorem dX3_request_46 : decode cX3_request 46 = .ok (.ifCond .eq 15, 3) := by decide +kernel
theorem dX3_request_49 : decode cX3_request 49 = .ok (.aload_n 0, 1) := by decide +kernel
theorem dX3_request_50 : decode cX3_request 50 = .ok (.getfield 30, 3) := by decide +kernel
theorem dX3_request_53 : decode cX3_request 53 = .ok (.iconst 1, 1) := by decide +kernel
theorem dX3_request_54 : decode cX3_request 54 = .ok (.if_icmp .ne 7, 3) := by decide +kernel
theorem dX3_request_57 : decode cX3_request 57 = .ok (.aload_n 0, 1) := by decide +kernel
theorem dX3_request_58 : decode cX3_request 58 = .ok (.invokevirtual 55, 3) := by decide +kernel
theorem dX3_request_61 : decode cX3_request 61 = .ok (.aload_n 0, 1) := by decide +kernel
theorem dX3_request_62 : decode cX3_request 62 = .ok (.getfield 10, 3) := by decide +kernel
theorem dX3_request_65 : decode cX3_request 65 = .ok (.invokevirtual 43, 3) := by decide +kernel
theorem dX3_request_68 : decode cX3_request 68 = .ok (.ireturn, 1) := by decide +kernel
set_option maxRecDepth 20000 in
theorem ggX3_wake_X3_run : GoodIn wsX3_wake wsX3_run := goodIn_r _ [6, 1, 7, 8, 9, 5, 10, 11, 12, 13, 14, 15, 16, 17, 18, 19, 20, 21, 32, 33, 34, 35, 36, 37, 38, 39, 40, 41, 42, 43, 44, 45, 46, 47] (by decide +kernel) (by decide +kernel)
set_option maxRecDepth 20000 in
theorem gX3_wake_X3_run : GoodIn wsX3_wake (wsV RX3 58 RX3 yX3_run wsX3_run) := goodIn_app (goodIn_of _ (by decide +kernel)) ggX3_wake_X3_run
set_option maxRecDepth 20000 in
theorem ggX3_wake_X3_check : GoodIn wsX3_wake wsX3_check := goodIn_r _ [25, 26, 12, 27, 28, 29, 30, 5, 31, 1, 15, 32, 33, 34, 35, 36, 37, 38, 39, 40, 41, 42, 43, 44, 45] (by decide +kernel) (by decide +kernel)
set_option maxRecDepth 20000 in
theorem gX3_wake_X3_check : GoodIn wsX3_wake (wsV RX3 61 RX3 yX3_check wsX3_check) := goodIn_app (goodIn_of _ (by decide +kernel)) ggX3_wake_X3_check
theorem dX3_wake_0 : decode cX3_wake 0 = .ok (.iload_n 1, 1) := by decide +kernel
theorem dX3_wake_1 : decode cX3_wake 1 = .ok (.iconst 1, 1) := by decide +kernel
theorem dX3_wake_2 : decode cX3_wake 2 = .ok (.if_icmp .lt 9, 3) := by decide +kernel
theorem dX3_wake_5 : decode cX3_wake 5 = .ok (.iload_n 1, 1) := by decide +kernel
theorem dX3_wake_6 : decode cX3_wake 6 = .ok (.bipush 8, 2) := by decide +kernel
theorem dX3_wake_8 : decode cX3_wake 8 = .ok (.if_icmp .le 5, 3) := by decide +kernel
theorem dX3_wake_11 : decode cX3_wake 11 = .ok (.iconst (-1), 1) := by decide +kernel
theorem dX3_wake_12 : decode cX3_wake 12 = .ok (.ireturn, 1) := by decide +kernel
theorem dX3_wake_13 : decode cX3_wake 13 = .ok (.iload_n 2, 1) := by decide +kernel
theorem dX3_wake_14 : decode cX3_wake 14 = .ok (.ifCond .eq 26, 3) := by decide +kernel
theorem dX3_wake_17 : decode cX3_wake 17 = .ok (.aload_n 0, 1) := by decide +kernel
theorem dX3_wake_18 : decode cX3_wake 18 = .ok (.getfield 30, 3) := by decide +kernel
theorem dX3_wake_21 : decode cX3_wake 21 = .ok (.iconst 3, 1) := by decide +kernel
theorem dX3_wake_22 : decode cX3_wake 22 = .ok (.if_icmp .eq 11, 3) := by decide +kernel
theorem dX3_wake_25 : decode cX3_wake 25 = .ok (.aload_n 0, 1) := by decide +kernel
theorem dX3_wake_26 : decode cX3_wake 26 = .ok (.getfield 30, 3) := by decide +kernel
theorem dX3_wake_29 : decode cX3_wake 29 = .ok (.iconst 4, 1) := by decide +kernel
theorem dX3_wake_30 : decode cX3_wake 30 = .ok (.if_icmp .ne 10, 3) := by decide +kernel
theorem dX3_wake_33 : decode cX3_wake 33 = .ok (.aload_n 0, 1) := by decide +kernel
theorem dX3_wake_34 : decode cX3_wake 34 = .ok (.invokevirtual 58, 3) := by decide +kernel
theorem dX3_wake_37 : decode cX3_wake 37 = .ok (.goto 15, 3) := by decide +kernel
theorem dX3_wake_40 : decode cX3_wake 40 = .ok (.aload_n 0, 1) := by decide +kernel
theorem dX3_wake_41 : decode cX3_wake 41 = .ok (.getfield 30, 3) := by decide +kernel
theorem dX3_wake_44 : decode cX3_wake 44 = .ok (.iconst 3, 1) := by decide +kernel
theorem dX3_wake_45 : decode cX3_wake 45 = .ok (.if_icmp .ne 7, 3) := by decide +kernel
theorem dX3_wake_48 : decode cX3_wake 48 = .ok (.aload_n 0, 1) := by decide +kernel
theorem dX3_wake_49 : decode cX3_wake 49 = .ok (.invokevirtual 61, 3) := by decide +kernel
theorem dX3_wake_52 : decode cX3_wake 52 = .ok (.aload_n 0, 1) := by decide +kernel
theorem dX3_wake_53 : decode cX3_wake 53 = .ok (.getfield 30, 3) := by decide +kernel
theorem dX3_wake_56 : decode cX3_wake 56 = .ok (.ireturn, 1) := by decide +kernel
set_option maxRecDepth 20000 in
theorem ggX3_step_X3_canAdvance : GoodIn wsX3_step wsX3_canAdvance := goodIn_r _ [6, 7, 8, 83, 84, 85, 86, 87, 88, 89, 90, 91, 92, 93, 94, 95, 96] (by decide +kernel) (by decide +kernel)
set_option maxRecDepth 20000 in
theorem gX3_step_X3_canAdvance : GoodIn wsX3_step (wsV RX3 64 RX3 yX3_canAdvance wsX3_canAdvance) := goodIn_app (goodIn_of _ (by decide +kernel)) ggX3_step_X3_canAdvance
set_option maxRecDepth 20000 in
theorem ggX3_step_X3_advance : GoodIn wsX3_step wsX3_advance := goodIn_ca (goodIn_r _ [12, 13, 14, 7, 15, 16, 17, 5, 18, 1, 19, 20, 21, 22, 23, 24, 25, 26, 27, 28, 29, 30, 31, 32, 33, 34, 35, 36, 37, 38, 39, 40, 41, 42, 43, 44, 45, 46, 47, 48, 49, 50, 51, 52, 53, 54, 55, 56, 57, 58, 59, 60, 61, 62, 63, 64, 65, 66, 67, 68, 69, 70, 71, 72, 73, 74, 75, 76, 77, 78, 79, 80, 81, 82, 83, 84, 85, 86, 87, 88, 89, 90, 91, 92, 93, 94, 95, 96, 97, 98, 99, 100, 101, 102] (by decide +kernel) (by decide +kernel)) (goodIn_sub (fun _ h => List.mem_cons_of_mem _ (List.mem_append_right _ h)) (by decide +kernel))
set_option maxRecDepth 20000 in
theorem gX3_step_X3_advance : GoodIn wsX3_step (wsV RX3 68 RX3 yX3_advance wsX3_advance) := goodIn_app (goodIn_of _ (by decide +kernel)) ggX3_step_X3_advance
theorem dX3_step_0 : decode cX3_step 0 = .ok (.aload_n 0, 1) := by decide +kernel
theorem dX3_step_1 : decode cX3_step 1 = .ok (.lload_n 1, 1) := by decide +kernel
theorem dX3_step_2 : decode cX3_step 2 = .ok (.invokevirtual 64, 3) := by decide +kernel
theorem dX3_step_5 : decode cX3_step 5 = .ok (.ifCond .ne 6, 3) := by decide +kernel
theorem dX3_step_8 : decode cX3_step 8 = .ok (.bipush (-2), 2) := by decide +kernel
theorem dX3_step_10 : decode cX3_step 10 = .ok (.ireturn, 1) := by decide +kernel
theorem dX3_step_11 : decode cX3_step 11 = .ok (.aload_n 0, 1) := by decide +kernel
theorem dX3_step_12 : decode cX3_step 12 = .ok (.lload_n 1, 1) := by decide +kernel
theorem dX3_step_13 : decode cX3_step 13 = .ok (.invokevirtual 68, 3) := by decide +kernel
theorem dX3_step_16 : decode cX3_step 16 = .ok (.aload_n 0, 1) := by decide +kernel
theorem dX3_step_17 : decode cX3_step 17 = .ok (.getfield 30, 3) := by decide +kernel
theorem dX3_step_20 : decode cX3_step 20 = .ok (.ireturn, 1) := by decide +kernel
set_option maxRecDepth 20000 in
theorem ggX3_init__X1_has : GoodIn wsX3_init_ wsX1_has := goodIn_r _ [6] (by decide +kernel) (by decide +kernel)
set_option maxRecDepth 20000 in
theorem gX3_init__X1_has : GoodIn wsX3_init_ (va_wsS RX3 72 yX1_has wsX1_has) := goodIn_app (goodIn_of _ (by decide +kernel)) ggX3_init__X1_has
set_option maxRecDepth 20000 in
theorem ggX3_init__X1_tell : GoodIn wsX3_init_ wsX1_tell := goodIn_ca (goodIn_r _ [10, 11, 12, 13, 14, 15, 4, 5, 6, 34, 35, 36, 37, 38, 39] (by decide +kernel) (by decide +kernel)) (goodIn_sub (fun _ h => List.mem_cons_of_mem _ (List.mem_append_right _ h)) (by decide +kernel))
set_option maxRecDepth 20000 in
theorem gX3_init__X1_tell : GoodIn wsX3_init_ (wsV RX3 73 RX1 yX1_tell wsX1_tell) := goodIn_app (goodIn_of _ (by decide +kernel)) ggX3_init__X1_tell
set_option maxRecDepth 20000 in
theorem ggX3_init__X1_howMany : GoodIn wsX3_init_ wsX1_howMany := goodIn_r _ [19, 12, 34, 35, 36, 37, 38, 39] (by decide +kernel) (by decide +kernel)
set_option maxRecDepth 20000 in
theorem gX3_init__X1_howMany : GoodIn wsX3_init_ (wsV RX3 77 RX1 yX1_howMany wsX1_howMany) := goodIn_app (goodIn_of _ (by decide +kernel)) ggX3_init__X1_howMany
theorem dX3_init__0 : decode cX3_init_ 0 = .ok (.iload_n 1, 1) := by decide +kernel
theorem dX3_init__1 : decode cX3_init_ 1 = .ok (.invokestatic 72, 3) := by decide +kernel
theorem dX3_init__4 : decode cX3_init_ 4 = .ok (.ifCond .ne 5, 3) := by decide +kernel
theorem dX3_init__7 : decode cX3_init_ 7 = .ok (.iconst (-1), 1) := by decide +kernel
theorem dX3_init__8 : decode cX3_init_ 8 = .ok (.ireturn, 1) := by decide +kernel
theorem dX3_init__9 : decode cX3_init_ 9 = .ok (.iload_n 2, 1) := by decide +kernel
theorem dX3_init__10 : decode cX3_init_ 10 = .ok (.ifCond .lt 9, 3) := by decide +kernel
theorem dX3_init__13 : decode cX3_init_ 13 = .ok (.iload_n 2, 1) := by decide +kernel
theorem dX3_init__14 : decode cX3_init_ 14 = .ok (.bipush 100, 2) := by decide +kernel
theorem dX3_init__16 : decode cX3_init_ 16 = .ok (.if_icmp .le 6, 3) := by decide +kernel
theorem dX3_init__19 : decode cX3_init_ 19 = .ok (.bipush (-2), 2) := by decide +kernel
theorem dX3_init__21 : decode cX3_init_ 21 = .ok (.ireturn, 1) := by decide +kernel
theorem dX3_init__22 : decode cX3_init_ 22 = .ok (.aload_n 0, 1) := by decide +kernel
theorem dX3_init__23 : decode cX3_init_ 23 = .ok (.getfield 30, 3) := by decide +kernel
theorem dX3_init__26 : decode cX3_init_ 26 = .ok (.ifCond .eq 6, 3) := by decide +kernel
theorem dX3_init__29 : decode cX3_init_ 29 = .ok (.bipush (-3), 2) := by decide +kernel
theorem dX3_init__31 : decode cX3_init_ 31 = .ok (.ireturn, 1) := by decide +kernel
theorem dX3_init__32 : decode cX3_init_ 32 = .ok (.aload_n 0, 1) := by decide +kernel
theorem dX3_init__33 : decode cX3_init_ 33 = .ok (.getfield 26, 3) := by decide +kernel
theorem dX3_init__36 : decode cX3_init_ 36 = .ok (.iload_n 1, 1) := by decide +kernel
theorem dX3_init__37 : decode cX3_init_ 37 = .ok (.iload_n 2, 1) := by decide +kernel
theorem dX3_init__38 : decode cX3_init_ 38 = .ok (.iload_n 3, 1) := by decide +kernel
theorem dX3_init__39 : decode cX3_init_ 39 = .ok (.invokevirtual 73, 3) := by decide +kernel
theorem dX3_init__42 : decode cX3_init_ 42 = .ok (.aload_n 0, 1) := by decide +kernel
theorem dX3_init__43 : decode cX3_init_ 43 = .ok (.getfield 26, 3) := by decide +kernel
theorem dX3_init__46 : decode cX3_init_ 46 = .ok (.invokevirtual 77, 3) := by decide +kernel
theorem dX3_init__49 : decode cX3_init_ 49 = .ok (.ireturn, 1) := by decide +kernel
set_option maxRecDepth 20000 in
theorem ggX3_block_X0_has : GoodIn wsX3_block wsX0_has := goodIn_r _ [5] (by decide +kernel) (by decide +kernel)
set_option maxRecDepth 20000 in
theorem gX3_block_X0_has : GoodIn wsX3_block (va_wsS RX3 78 yX0_has wsX0_has) := goodIn_app (goodIn_of _ (by decide +kernel)) ggX3_block_X0_has
set_option maxRecDepth 20000 in
theorem ggX3_block_X0_isChanged : GoodIn wsX3_block wsX0_isChanged := goodIn_ca (goodIn_r _ [9, 10, 11, 3, 4, 5, 26, 27, 28, 29] (by decide +kernel) (by decide +kernel)) (goodIn_sub (fun _ h => List.mem_cons_of_mem _ (List.mem_append_right _ h)) (by decide +kernel))
set_option maxRecDepth 20000 in
theorem gX3_block_X0_isChanged : GoodIn wsX3_block (wsV RX3 79 RX0 yX0_isChanged wsX0_isChanged) := goodIn_app (goodIn_of _ (by decide +kernel)) ggX3_block_X0_isChanged
theorem dX3_block_0 : decode cX3_block 0 = .ok (.iload_n 1, 1) := by decide +kernel
theorem dX3_block_1 : decode cX3_block 1 = .ok (.invokestatic 78, 3) := by decide +kernel
theorem dX3_block_4 : decode cX3_block 4 = .ok (.ifCond .ne 5, 3) := by decide +kernel
theorem dX3_block_7 : decode cX3_block 7 = .ok (.iconst (-1), 1) := by decide +kernel
theorem dX3_block_8 : decode cX3_block 8 = .ok (.ireturn, 1) := by decide +kernel
theorem dX3_block_9 : decode cX3_block 9 = .ok (.aload_n 0, 1) := by decide +kernel
theorem dX3_block_10 : decode cX3_block 10 = .ok (.getfield 19, 3) := by decide +kernel
theorem dX3_block_13 : decode cX3_block 13 = .ok (.iload_n 1, 1) := by decide +kernel
theorem dX3_block_14 : decode cX3_block 14 = .ok (.invokevirtual 79, 3) := by decide +kernel
theorem dX3_block_17 : decode cX3_block 17 = .ok (.ifCond .eq 7, 3) := by decide +kernel
theorem dX3_block_20 : decode cX3_block 20 = .ok (.iconst 1, 1) := by decide +kernel
theorem dX3_block_21 : decode cX3_block 21 = .ok (.goto 4, 3) := by decide +kernel
theorem dX3_block_24 : decode cX3_block 24 = .ok (.iconst 0, 1) := by decide +kernel
theorem dX3_block_25 : decode cX3_block 25 = .ok (.ireturn, 1) := by decide +kernel
set_option maxRecDepth 20000 in
theorem ggX3_write_X0_has : GoodIn wsX3_write wsX0_has := goodIn_r _ [6] (by decide +kernel) (by decide +kernel)
set_option maxRecDepth 20000 in
theorem gX3_write_X0_has : GoodIn wsX3_write (va_wsS RX3 78 yX0_has wsX0_has) := goodIn_app (goodIn_of _ (by decide +kernel)) ggX3_write_X0_has
set_option maxRecDepth 20000 in
theorem ggX3_write_X0_hasOctet : GoodIn wsX3_write wsX0_hasOctet := goodIn_r _ [9] (by decide +kernel) (by decide +kernel)
set_option maxRecDepth 20000 in
theorem gX3_write_X0_hasOctet : GoodIn wsX3_write (va_wsS RX3 82 yX0_hasOctet wsX0_hasOctet) := goodIn_app (goodIn_of _ (by decide +kernel)) ggX3_write_X0_hasOctet
set_option maxRecDepth 20000 in
theorem ggX3_write_X0_put : GoodIn wsX3_write wsX0_put := goodIn_ca (goodIn_r _ [13, 14, 15, 16, 4, 5, 6, 17, 8, 9, 32, 33, 34, 35] (by decide +kernel) (by decide +kernel)) (goodIn_sub (fun _ h => List.mem_cons_of_mem _ (List.mem_append_right _ h)) (by decide +kernel))
set_option maxRecDepth 20000 in
theorem gX3_write_X0_put : GoodIn wsX3_write (wsV RX3 85 RX0 yX0_put wsX0_put) := goodIn_app (goodIn_of _ (by decide +kernel)) ggX3_write_X0_put
theorem dX3_write_0 : decode cX3_write 0 = .ok (.iload_n 1, 1) := by decide +kernel
theorem dX3_write_1 : decode cX3_write 1 = .ok (.invokestatic 78, 3) := by decide +kernel
theorem dX3_write_4 : decode cX3_write 4 = .ok (.ifCond .ne 5, 3) := by decide +kernel
theorem dX3_write_7 : decode cX3_write 7 = .ok (.iconst (-1), 1) := by decide +kernel
theorem dX3_write_8 : decode cX3_write 8 = .ok (.ireturn, 1) := by decide +kernel
theorem dX3_write_9 : decode cX3_write 9 = .ok (.iload_n 2, 1) := by decide +kernel
theorem dX3_write_10 : decode cX3_write 10 = .ok (.invokestatic 82, 3) := by decide +kernel
theorem dX3_write_13 : decode cX3_write 13 = .ok (.ifCond .ne 6, 3) := by decide +kernel
theorem dX3_write_16 : decode cX3_write 16 = .ok (.bipush (-2), 2) := by decide +kernel
theorem dX3_write_18 : decode cX3_write 18 = .ok (.ireturn, 1) := by decide +kernel
theorem dX3_write_19 : decode cX3_write 19 = .ok (.aload_n 0, 1) := by decide +kernel
theorem dX3_write_20 : decode cX3_write 20 = .ok (.getfield 30, 3) := by decide +kernel
theorem dX3_write_23 : decode cX3_write 23 = .ok (.iconst 1, 1) := by decide +kernel
theorem dX3_write_24 : decode cX3_write 24 = .ok (.if_icmp .eq 14, 3) := by decide +kernel
theorem dX3_write_27 : decode cX3_write 27 = .ok (.aload_n 0, 1) := by decide +kernel
theorem dX3_write_28 : decode cX3_write 28 = .ok (.getfield 30, 3) := by decide +kernel
theorem dX3_write_31 : decode cX3_write 31 = .ok (.iconst 5, 1) := by decide +kernel
theorem dX3_write_32 : decode cX3_write 32 = .ok (.if_icmp .eq 6, 3) := by decide +kernel
theorem dX3_write_35 : decode cX3_write 35 = .ok (.bipush (-3), 2) := by decide +kernel
theorem dX3_write_37 : decode cX3_write 37 = .ok (.ireturn, 1) := by decide +kernel
theorem dX3_write_38 : decode cX3_write 38 = .ok (.aload_n 0, 1) := by decide +kernel
theorem dX3_write_39 : decode cX3_write 39 = .ok (.getfield 19, 3) := by decide +kernel
theorem dX3_write_42 : decode cX3_write 42 = .ok (.iload_n 1, 1) := by decide +kernel
theorem dX3_write_43 : decode cX3_write 43 = .ok (.iload_n 2, 1) := by decide +kernel
theorem dX3_write_44 : decode cX3_write 44 = .ok (.iload_n 3, 1) := by decide +kernel
theorem dX3_write_45 : decode cX3_write 45 = .ok (.invokevirtual 85, 3) := by decide +kernel
theorem dX3_write_48 : decode cX3_write 48 = .ok (.iconst 1, 1) := by decide +kernel
theorem dX3_write_49 : decode cX3_write 49 = .ok (.ireturn, 1) := by decide +kernel
set_option maxRecDepth 20000 in
theorem ggX3_cut_X3_canAdvance : GoodIn wsX3_cut wsX3_canAdvance := goodIn_r _ [10, 11, 12, 88, 89, 90, 91, 92, 93, 94, 95, 96, 97, 98, 99, 100, 101] (by decide +kernel) (by decide +kernel)
set_option maxRecDepth 20000 in
theorem gX3_cut_X3_canAdvance : GoodIn wsX3_cut (wsV RX3 64 RX3 yX3_canAdvance wsX3_canAdvance) := goodIn_app (goodIn_of _ (by decide +kernel)) ggX3_cut_X3_canAdvance
set_option maxRecDepth 20000 in
theorem ggX3_cut_X3_advance : GoodIn wsX3_cut wsX3_advance := goodIn_ca (goodIn_r _ [16, 17, 4, 11, 18, 19, 20, 9, 21, 1, 22, 23, 24, 25, 5, 3, 26, 27, 28, 29, 30, 31, 32, 33, 34, 35, 36, 37, 38, 39, 40, 41, 42, 43, 44, 45, 46, 47, 48, 49, 50, 51, 52, 53, 54, 55, 56, 57, 58, 59, 60, 61, 62, 63, 64, 65, 66, 67, 68, 69, 70, 71, 72, 73, 74, 75, 76, 77, 78, 79, 80, 81, 82, 83, 88, 89, 90, 91, 92, 93, 94, 95, 96, 97, 98, 99, 100, 101, 102, 103, 104, 105, 106, 107] (by decide +kernel) (by decide +kernel)) (goodIn_sub (fun _ h => List.mem_cons_of_mem _ (List.mem_append_right _ h)) (by decide +kernel))
set_option maxRecDepth 20000 in
theorem gX3_cut_X3_advance : GoodIn wsX3_cut (wsV RX3 68 RX3 yX3_advance wsX3_advance) := goodIn_app (goodIn_of _ (by decide +kernel)) ggX3_cut_X3_advance
set_option maxRecDepth 20000 in
theorem ggX3_cut_X3_enter : GoodIn wsX3_cut wsX3_enter := goodIn_r _ [41, 1, 17, 88, 89, 90, 91, 92, 93, 94, 95, 96, 97, 98, 99, 100, 101] (by decide +kernel) (by decide +kernel)
set_option maxRecDepth 20000 in
theorem gX3_cut_X3_enter : GoodIn wsX3_cut (wsV RX3 92 RX3 yX3_enter wsX3_enter) := goodIn_app (goodIn_of _ (by decide +kernel)) ggX3_cut_X3_enter
set_option maxRecDepth 20000 in
theorem ggX3_cut_X0_howManyChanged : GoodIn wsX3_cut wsX0_howManyChanged := goodIn_ca (goodIn_r _ [87, 32, 102, 103, 104, 105] (by decide +kernel) (by decide +kernel)) (goodIn_sub (fun _ h => List.mem_cons_of_mem _ (List.mem_append_right _ h)) (by decide +kernel))
set_option maxRecDepth 20000 in
theorem gX3_cut_X0_howManyChanged : GoodIn wsX3_cut (wsV RX3 96 RX0 yX0_howManyChanged wsX0_howManyChanged) := goodIn_app (goodIn_of _ (by decide +kernel)) ggX3_cut_X0_howManyChanged
theorem dX3_cut_0 : decode cX3_cut 0 = .ok (.aload_n 0, 1) := by decide +kernel
theorem dX3_cut_1 : decode cX3_cut 1 = .ok (.lload_n 1, 1) := by decide +kernel
theorem dX3_cut_2 : decode cX3_cut 2 = .ok (.invokevirtual 64, 3) := by decide +kernel
theorem dX3_cut_5 : decode cX3_cut 5 = .ok (.ifCond .ne 6, 3) := by decide +kernel
theorem dX3_cut_8 : decode cX3_cut 8 = .ok (.bipush (-2), 2) := by decide +kernel
theorem dX3_cut_10 : decode cX3_cut 10 = .ok (.ireturn, 1) := by decide +kernel
theorem dX3_cut_11 : decode cX3_cut 11 = .ok (.aload_n 0, 1) := by decide +kernel
theorem dX3_cut_12 : decode cX3_cut 12 = .ok (.getfield 30, 3) := by decide +kernel
theorem dX3_cut_15 : decode cX3_cut 15 = .ok (.ifCond .ne 6, 3) := by decide +kernel
theorem dX3_cut_18 : decode cX3_cut 18 = .ok (.bipush (-3), 2) := by decide +kernel
theorem dX3_cut_20 : decode cX3_cut 20 = .ok (.ireturn, 1) := by decide +kernel
theorem dX3_cut_21 : decode cX3_cut 21 = .ok (.aload_n 0, 1) := by decide +kernel
theorem dX3_cut_22 : decode cX3_cut 22 = .ok (.lload_n 1, 1) := by decide +kernel
theorem dX3_cut_23 : decode cX3_cut 23 = .ok (.invokevirtual 68, 3) := by decide +kernel
theorem dX3_cut_26 : decode cX3_cut 26 = .ok (.aload_n 0, 1) := by decide +kernel
theorem dX3_cut_27 : decode cX3_cut 27 = .ok (.dup, 1) := by decide +kernel
theorem dX3_cut_28 : decode cX3_cut 28 = .ok (.getfield 89, 3) := by decide +kernel
theorem dX3_cut_31 : decode cX3_cut 31 = .ok (.lconst 1, 1) := by decide +kernel
theorem dX3_cut_32 : decode cX3_cut 32 = .ok (.ladd, 1) := by decide +kernel
theorem dX3_cut_33 : decode cX3_cut 33 = .ok (.putfield 89, 3) := by decide +kernel
theorem dX3_cut_36 : decode cX3_cut 36 = .ok (.aload_n 0, 1) := by decide +kernel
theorem dX3_cut_37 : decode cX3_cut 37 = .ok (.iconst (-1), 1) := by decide +kernel
theorem dX3_cut_38 : decode cX3_cut 38 = .ok (.putfield 40, 3) := by decide +kernel
theorem dX3_cut_41 : decode cX3_cut 41 = .ok (.aload_n 0, 1) := by decide +kernel
theorem dX3_cut_42 : decode cX3_cut 42 = .ok (.iconst 0, 1) := by decide +kernel
theorem dX3_cut_43 : decode cX3_cut 43 = .ok (.ldc2_w 34, 3) := by decide +kernel
theorem dX3_cut_46 : decode cX3_cut 46 = .ok (.invokevirtual 92, 3) := by decide +kernel
theorem dX3_cut_49 : decode cX3_cut 49 = .ok (.aload_n 0, 1) := by decide +kernel
theorem dX3_cut_50 : decode cX3_cut 50 = .ok (.getfield 19, 3) := by decide +kernel
theorem dX3_cut_53 : decode cX3_cut 53 = .ok (.invokevirtual 96, 3) := by decide +kernel
theorem dX3_cut_56 : decode cX3_cut 56 = .ok (.ireturn, 1) := by decide +kernel
set_option maxRecDepth 20000 in
theorem ggX3_start_X0_load : GoodIn wsX3_start wsX0_load := goodIn_ca (goodIn_r _ [15, 16, 17, 18, 19, 20, 21, 22, 23, 24, 25, 14, 26, 27, 97, 98, 99, 100] (by decide +kernel) (by decide +kernel)) (goodIn_sub (fun _ h => List.mem_cons_of_mem _ (List.mem_append_right _ h)) (by decide +kernel))
set_option maxRecDepth 20000 in
theorem gX3_start_X0_load : GoodIn wsX3_start (wsV RX3 114 RX0 yX0_load wsX0_load) := goodIn_app (goodIn_of _ (by decide +kernel)) ggX3_start_X0_load
