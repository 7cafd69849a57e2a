theorem my_in_app {a b c : List Cond} (ha : ∀ w ∈ a, w ∈ c) (hb : ∀ w ∈ b, w ∈ c) : ∀ w ∈ a ++ b, w ∈ c := fun w h => (List.mem_append.mp h).elim (ha w) (hb w)
theorem wsL_law_in0 : ∀ w ∈ wsL_law0, w ∈ lw_tbl := (my_in_app (my_in_app (my_in_app (my_in_app (my_in_app (my_in_app (my_in_app (my_in_app my_in_wsL_law0_r1 (my_in_app my_in_wsL_law0_r2 (my_in_app my_in_wsL_law0_r3 (my_in_app my_in_wsL_law0_r4 (my_in_app my_in_wsL_law0_r5 (my_in_app my_in_wsL_law0_r6 (my_in_app my_in_wsL_law0_r7 (my_in_app my_in_wsL_law0_r8 (my_in_app my_in_wsL_law0_r9 (my_in_app my_in_wsL_law0_r10 (my_in_app my_in_wsL_law0_r11 (my_in_app my_in_wsL_law0_r12 (my_in_app my_in_wsL_law0_r13 (my_in_app my_in_wsL_law0_r14 (my_in_app my_in_wsL_law0_r15 (my_in_app my_in_wsL_law0_r16 my_in_wsL_law0_r17)))))))))))))))) my_in_wsX30) my_in_wsX40) my_in_wsX20) my_in_wsX00) my_in_wsX10) my_in_wsJx000600) (fun _ h => nomatch h))

theorem wsL_law_x0 : ∀ w ∈ (vx_atM "java/lang/ArrayIndexOutOfBoundsException" ["java/lang/IndexOutOfBoundsException", "java/lang/RuntimeException", "java/lang/Exception"]).filter goodWord, w ∈ lw_tbl := by decide +kernel
theorem wsL_law_in : ∀ w ∈ wsL_law, w ∈ lw_tbl := fun w h => (List.mem_append.mp h).elim (fun h => wsL_law_in0 w h) (fun h => wsL_law_x0 w h)
theorem inlX0 : ∀ w ∈ wsX00, w ∈ wsL_law := fun _ h => List.mem_append_left _ (List.mem_append_left _ (List.mem_append_left _ (List.mem_append_left _ (List.mem_append_right _ h))))
theorem inX0 : ∀ w ∈ wsX00, w ∈ lw_tbl := fun w h => wsL_law_in w (inlX0 w h)
theorem inlX1 : ∀ w ∈ wsX10, w ∈ wsL_law := fun _ h => List.mem_append_left _ (List.mem_append_left _ (List.mem_append_left _ (List.mem_append_right _ h)))
theorem inX1 : ∀ w ∈ wsX10, w ∈ lw_tbl := fun w h => wsL_law_in w (inlX1 w h)
theorem inlX2 : ∀ w ∈ wsX20, w ∈ wsL_law := fun _ h => List.mem_append_left _ (List.mem_append_left _ (List.mem_append_left _ (List.mem_append_left _ (List.mem_append_left _ (List.mem_append_right _ h)))))
theorem inX2 : ∀ w ∈ wsX20, w ∈ lw_tbl := fun w h => wsL_law_in w (inlX2 w h)
theorem inlX3 : ∀ w ∈ wsX30, w ∈ wsL_law := fun _ h => List.mem_append_left _ (List.mem_append_left _ (List.mem_append_left _ (List.mem_append_left _ (List.mem_append_left _ (List.mem_append_left _ (List.mem_append_left _ (List.mem_append_right _ h)))))))
theorem inX3 : ∀ w ∈ wsX30, w ∈ lw_tbl := fun w h => wsL_law_in w (inlX3 w h)
theorem inlX4 : ∀ w ∈ wsX40, w ∈ wsL_law := fun _ h => List.mem_append_left _ (List.mem_append_left _ (List.mem_append_left _ (List.mem_append_left _ (List.mem_append_left _ (List.mem_append_left _ (List.mem_append_right _ h))))))
theorem inX4 : ∀ w ∈ wsX40, w ∈ lw_tbl := fun w h => wsL_law_in w (inlX4 w h)
theorem inlJx00060 : ∀ w ∈ wsJx000600, w ∈ wsL_law := fun _ h => List.mem_append_left _ (List.mem_append_left _ (List.mem_append_right _ h))
theorem inJx00060 : ∀ w ∈ wsJx000600, w ∈ lw_tbl := fun w h => wsL_law_in w (inlJx00060 w h)
theorem inJ0 : ∀ w ∈ wsJ00, w ∈ lw_tbl := by decide +kernel
theorem inJ10 : ∀ w ∈ wsJ100, w ∈ lw_tbl := by decide +kernel
theorem dX0_init_0 : decode cX0_init 0 = .ok (.aload_n 0, 1) := by decide +kernel
theorem dX0_init_1 : decode cX0_init 1 = .ok (.invokespecial 3, 3) := by decide +kernel
theorem dX0_init_4 : decode cX0_init 4 = .ok (.aload_n 0, 1) := by decide +kernel
theorem dX0_init_5 : decode cX0_init 5 = .ok (.sipush 128, 3) := by decide +kernel
theorem dX0_init_8 : decode cX0_init 8 = .ok (.newarray .byte, 2) := by decide +kernel
theorem dX0_init_10 : decode cX0_init 10 = .ok (.putfield 11, 3) := by decide +kernel
theorem dX0_init_13 : decode cX0_init 13 = .ok (.aload_n 0, 1) := by decide +kernel
theorem dX0_init_14 : decode cX0_init 14 = .ok (.iconst 2, 1) := by decide +kernel
theorem dX0_init_15 : decode cX0_init 15 = .ok (.sipush 128, 3) := by decide +kernel
theorem dX0_init_18 : decode cX0_init 18 = .ok (.multianewarray 15 2, 4) := by decide +kernel
theorem dX0_init_22 : decode cX0_init 22 = .ok (.putfield 17, 3) := by decide +kernel
theorem dX0_init_25 : decode cX0_init 25 = .ok (.aload_n 0, 1) := by decide +kernel
theorem dX0_init_26 : decode cX0_init 26 = .ok (.iconst 2, 1) := by decide +kernel
theorem dX0_init_27 : decode cX0_init 27 = .ok (.bipush 8, 2) := by decide +kernel
theorem dX0_init_29 : decode cX0_init 29 = .ok (.multianewarray 20 2, 4) := by decide +kernel
theorem dX0_init_33 : decode cX0_init 33 = .ok (.putfield 22, 3) := by decide +kernel
theorem dX0_init_36 : decode cX0_init 36 = .ok (.aload_n 0, 1) := by decide +kernel
theorem dX0_init_37 : decode cX0_init 37 = .ok (.bipush 8, 2) := by decide +kernel
theorem dX0_init_39 : decode cX0_init 39 = .ok (.newarray .boolean, 2) := by decide +kernel
theorem dX0_init_41 : decode cX0_init 41 = .ok (.putfield 25, 3) := by decide +kernel
theorem dX0_init_44 : decode cX0_init 44 = .ok (.return_, 1) := by decide +kernel
theorem dX0_has_0 : decode cX0_has 0 = .ok (.iload_n 0, 1) := by decide +kernel
theorem dX0_has_1 : decode cX0_has 1 = .ok (.ifCond .lt 13, 3) := by decide +kernel
theorem dX0_has_4 : decode cX0_has 4 = .ok (.iload_n 0, 1) := by decide +kernel
theorem dX0_has_5 : decode cX0_has 5 = .ok (.bipush 8, 2) := by decide +kernel
theorem dX0_has_7 : decode cX0_has 7 = .ok (.if_icmp .ge 7, 3) := by decide +kernel
theorem dX0_has_10 : decode cX0_has 10 = .ok (.iconst 1, 1) := by decide +kernel
theorem dX0_has_11 : decode cX0_has 11 = .ok (.goto 4, 3) := by decide +kernel
theorem dX0_has_14 : decode cX0_has 14 = .ok (.iconst 0, 1) := by decide +kernel
theorem dX0_has_15 : decode cX0_has 15 = .ok (.ireturn, 1) := by decide +kernel
theorem dX0_hasOctet_0 : decode cX0_hasOctet 0 = .ok (.iload_n 0, 1) := by decide +kernel
theorem dX0_hasOctet_1 : decode cX0_hasOctet 1 = .ok (.ifCond .lt 13, 3) := by decide +kernel
theorem dX0_hasOctet_4 : decode cX0_hasOctet 4 = .ok (.iload_n 0, 1) := by decide +kernel
theorem dX0_hasOctet_5 : decode cX0_hasOctet 5 = .ok (.bipush 16, 2) := by decide +kernel
theorem dX0_hasOctet_7 : decode cX0_hasOctet 7 = .ok (.if_icmp .ge 7, 3) := by decide +kernel
theorem dX0_hasOctet_10 : decode cX0_hasOctet 10 = .ok (.iconst 1, 1) := by decide +kernel
theorem dX0_hasOctet_11 : decode cX0_hasOctet 11 = .ok (.goto 4, 3) := by decide +kernel
theorem dX0_hasOctet_14 : decode cX0_hasOctet 14 = .ok (.iconst 0, 1) := by decide +kernel
theorem dX0_hasOctet_15 : decode cX0_hasOctet 15 = .ok (.ireturn, 1) := by decide +kernel
set_option maxRecDepth 20000 in
theorem ggX0_isChanged_X0_has : GoodIn wsX0_isChanged wsX0_has := goodIn_r _ [5] (by decide +kernel) (by decide +kernel)
set_option maxRecDepth 20000 in
theorem gX0_isChanged_X0_has : GoodIn wsX0_isChanged (va_wsS RX0 29 yX0_has wsX0_has) := goodIn_app (goodIn_of _ (by decide +kernel)) ggX0_isChanged_X0_has
theorem dX0_isChanged_0 : decode cX0_isChanged 0 = .ok (.iload_n 1, 1) := by decide +kernel
theorem dX0_isChanged_1 : decode cX0_isChanged 1 = .ok (.invokestatic 29, 3) := by decide +kernel
theorem dX0_isChanged_4 : decode cX0_isChanged 4 = .ok (.ifCond .eq 16, 3) := by decide +kernel
theorem dX0_isChanged_7 : decode cX0_isChanged 7 = .ok (.aload_n 0, 1) := by decide +kernel
theorem dX0_isChanged_8 : decode cX0_isChanged 8 = .ok (.getfield 25, 3) := by decide +kernel
theorem dX0_isChanged_11 : decode cX0_isChanged 11 = .ok (.iload_n 1, 1) := by decide +kernel
theorem dX0_isChanged_12 : decode cX0_isChanged 12 = .ok (.baload, 1) := by decide +kernel
theorem dX0_isChanged_13 : decode cX0_isChanged 13 = .ok (.ifCond .eq 7, 3) := by decide +kernel
theorem dX0_isChanged_16 : decode cX0_isChanged 16 = .ok (.iconst 1, 1) := by decide +kernel
theorem dX0_isChanged_17 : decode cX0_isChanged 17 = .ok (.goto 4, 3) := by decide +kernel
theorem dX0_isChanged_20 : decode cX0_isChanged 20 = .ok (.iconst 0, 1) := by decide +kernel
theorem dX0_isChanged_21 : decode cX0_isChanged 21 = .ok (.ireturn, 1) := by decide +kernel
theorem dX0_howManyChanged_0 : decode cX0_howManyChanged 0 = .ok (.iconst 0, 1) := by decide +kernel
theorem dX0_howManyChanged_1 : decode cX0_howManyChanged 1 = .ok (.istore_n 1, 1) := by decide +kernel
theorem dX0_howManyChanged_2 : decode cX0_howManyChanged 2 = .ok (.iconst 0, 1) := by decide +kernel
theorem dX0_howManyChanged_3 : decode cX0_howManyChanged 3 = .ok (.istore_n 2, 1) := by decide +kernel
theorem dX0_howManyChanged_4 : decode cX0_howManyChanged 4 = .ok (.iload_n 2, 1) := by decide +kernel
theorem dX0_howManyChanged_5 : decode cX0_howManyChanged 5 = .ok (.bipush 8, 2) := by decide +kernel
theorem dX0_howManyChanged_7 : decode cX0_howManyChanged 7 = .ok (.if_icmp .ge 21, 3) := by decide +kernel
theorem dX0_howManyChanged_10 : decode cX0_howManyChanged 10 = .ok (.aload_n 0, 1) := by decide +kernel
theorem dX0_howManyChanged_11 : decode cX0_howManyChanged 11 = .ok (.getfield 25, 3) := by decide +kernel
theorem dX0_howManyChanged_14 : decode cX0_howManyChanged 14 = .ok (.iload_n 2, 1) := by decide +kernel
theorem dX0_howManyChanged_15 : decode cX0_howManyChanged 15 = .ok (.baload, 1) := by decide +kernel
theorem dX0_howManyChanged_16 : decode cX0_howManyChanged 16 = .ok (.ifCond .eq 6, 3) := by decide +kernel
theorem dX0_howManyChanged_19 : decode cX0_howManyChanged 19 = .ok (.iinc 1 1, 3) := by decide +kernel
theorem dX0_howManyChanged_22 : decode cX0_howManyChanged 22 = .ok (.iinc 2 1, 3) := by decide +kernel
theorem dX0_howManyChanged_25 : decode cX0_howManyChanged 25 = .ok (.goto (-21), 3) := by decide +kernel
theorem dX0_howManyChanged_28 : decode cX0_howManyChanged 28 = .ok (.iload_n 1, 1) := by decide +kernel
theorem dX0_howManyChanged_29 : decode cX0_howManyChanged 29 = .ok (.ireturn, 1) := by decide +kernel
theorem dX0_firstChanged_0 : decode cX0_firstChanged 0 = .ok (.iconst 0, 1) := by decide +kernel
theorem dX0_firstChanged_1 : decode cX0_firstChanged 1 = .ok (.istore_n 1, 1) := by decide +kernel
theorem dX0_firstChanged_2 : decode cX0_firstChanged 2 = .ok (.iload_n 1, 1) := by decide +kernel
theorem dX0_firstChanged_3 : decode cX0_firstChanged 3 = .ok (.bipush 8, 2) := by decide +kernel
theorem dX0_firstChanged_5 : decode cX0_firstChanged 5 = .ok (.if_icmp .ge 20, 3) := by decide +kernel
theorem dX0_firstChanged_8 : decode cX0_firstChanged 8 = .ok (.aload_n 0, 1) := by decide +kernel
theorem dX0_firstChanged_9 : decode cX0_firstChanged 9 = .ok (.getfield 25, 3) := by decide +kernel
theorem dX0_firstChanged_12 : decode cX0_firstChanged 12 = .ok (.iload_n 1, 1) := by decide +kernel
theorem dX0_firstChanged_13 : decode cX0_firstChanged 13 = .ok (.baload, 1) := by decide +kernel
theorem dX0_firstChanged_14 : decode cX0_firstChanged 14 = .ok (.ifCond .eq 5, 3) := by decide +kernel
theorem dX0_firstChanged_17 : decode cX0_firstChanged 17 = .ok (.iload_n 1, 1) := by decide +kernel
theorem dX0_firstChanged_18 : decode cX0_firstChanged 18 = .ok (.ireturn, 1) := by decide +kernel
theorem dX0_firstChanged_19 : decode cX0_firstChanged 19 = .ok (.iinc 1 1, 3) := by decide +kernel
theorem dX0_firstChanged_22 : decode cX0_firstChanged 22 = .ok (.goto (-20), 3) := by decide +kernel
theorem dX0_firstChanged_25 : decode cX0_firstChanged 25 = .ok (.iconst (-1), 1) := by decide +kernel
theorem dX0_firstChanged_26 : decode cX0_firstChanged 26 = .ok (.ireturn, 1) := by decide +kernel
set_option maxRecDepth 20000 in
theorem ggX0_put_X0_has : GoodIn wsX0_put wsX0_has := goodIn_r _ [6] (by decide +kernel) (by decide +kernel)
set_option maxRecDepth 20000 in
theorem gX0_put_X0_has : GoodIn wsX0_put (va_wsS RX0 29 yX0_has wsX0_has) := goodIn_app (goodIn_of _ (by decide +kernel)) ggX0_put_X0_has
set_option maxRecDepth 20000 in
theorem ggX0_put_X0_hasOctet : GoodIn wsX0_put wsX0_hasOctet := goodIn_r _ [9] (by decide +kernel) (by decide +kernel)
set_option maxRecDepth 20000 in
theorem gX0_put_X0_hasOctet : GoodIn wsX0_put (va_wsS RX0 33 yX0_hasOctet wsX0_hasOctet) := goodIn_app (goodIn_of _ (by decide +kernel)) ggX0_put_X0_hasOctet
theorem dX0_put_0 : decode cX0_put 0 = .ok (.iload_n 1, 1) := by decide +kernel
theorem dX0_put_1 : decode cX0_put 1 = .ok (.invokestatic 29, 3) := by decide +kernel
theorem dX0_put_4 : decode cX0_put 4 = .ok (.ifCond .eq 29, 3) := by decide +kernel
theorem dX0_put_7 : decode cX0_put 7 = .ok (.iload_n 2, 1) := by decide +kernel
theorem dX0_put_8 : decode cX0_put 8 = .ok (.invokestatic 33, 3) := by decide +kernel
theorem dX0_put_11 : decode cX0_put 11 = .ok (.ifCond .eq 22, 3) := by decide +kernel
theorem dX0_put_14 : decode cX0_put 14 = .ok (.aload_n 0, 1) := by decide +kernel
theorem dX0_put_15 : decode cX0_put 15 = .ok (.getfield 11, 3) := by decide +kernel
theorem dX0_put_18 : decode cX0_put 18 = .ok (.iload_n 1, 1) := by decide +kernel
theorem dX0_put_19 : decode cX0_put 19 = .ok (.bipush 16, 2) := by decide +kernel
theorem dX0_put_21 : decode cX0_put 21 = .ok (.imul, 1) := by decide +kernel
theorem dX0_put_22 : decode cX0_put 22 = .ok (.iload_n 2, 1) := by decide +kernel
theorem dX0_put_23 : decode cX0_put 23 = .ok (.iadd, 1) := by decide +kernel
theorem dX0_put_24 : decode cX0_put 24 = .ok (.iload_n 3, 1) := by decide +kernel
theorem dX0_put_25 : decode cX0_put 25 = .ok (.bastore, 1) := by decide +kernel
theorem dX0_put_26 : decode cX0_put 26 = .ok (.aload_n 0, 1) := by decide +kernel
theorem dX0_put_27 : decode cX0_put 27 = .ok (.getfield 25, 3) := by decide +kernel
theorem dX0_put_30 : decode cX0_put 30 = .ok (.iload_n 1, 1) := by decide +kernel
theorem dX0_put_31 : decode cX0_put 31 = .ok (.iconst 1, 1) := by decide +kernel
theorem dX0_put_32 : decode cX0_put 32 = .ok (.bastore, 1) := by decide +kernel
theorem dX0_put_33 : decode cX0_put 33 = .ok (.return_, 1) := by decide +kernel
set_option maxRecDepth 20000 in
theorem ggX0_keptOctet_X0_has : GoodIn wsX0_keptOctet wsX0_has := goodIn_r _ [5] (by decide +kernel) (by decide +kernel)
set_option maxRecDepth 20000 in
theorem gX0_keptOctet_X0_has : GoodIn wsX0_keptOctet (va_wsS RX0 29 yX0_has wsX0_has) := goodIn_app (goodIn_of _ (by decide +kernel)) ggX0_keptOctet_X0_has
set_option maxRecDepth 20000 in
theorem ggX0_keptOctet_X0_hasOctet : GoodIn wsX0_keptOctet wsX0_hasOctet := goodIn_r _ [8] (by decide +kernel) (by decide +kernel)
set_option maxRecDepth 20000 in
theorem gX0_keptOctet_X0_hasOctet : GoodIn wsX0_keptOctet (va_wsS RX0 33 yX0_hasOctet wsX0_hasOctet) := goodIn_app (goodIn_of _ (by decide +kernel)) ggX0_keptOctet_X0_hasOctet
set_option maxRecDepth 20000 in
theorem ggX0_keptOctet_X0_keptCopy : GoodIn wsX0_keptOctet wsX0_keptCopy := goodIn_ca (goodIn_r _ [12, 13, 14, 15, 16, 17] (by decide +kernel) (by decide +kernel)) (goodIn_sub (fun _ h => List.mem_cons_of_mem _ (List.mem_append_right _ h)) (by decide +kernel))
set_option maxRecDepth 20000 in
theorem gX0_keptOctet_X0_keptCopy : GoodIn wsX0_keptOctet (wsV RX0 36 RX0 yX0_keptCopy wsX0_keptCopy) := goodIn_app (goodIn_of _ (by decide +kernel)) ggX0_keptOctet_X0_keptCopy
theorem dX0_keptOctet_0 : decode cX0_keptOctet 0 = .ok (.iload_n 1, 1) := by decide +kernel
theorem dX0_keptOctet_1 : decode cX0_keptOctet 1 = .ok (.invokestatic 29, 3) := by decide +kernel
theorem dX0_keptOctet_4 : decode cX0_keptOctet 4 = .ok (.ifCond .eq 30, 3) := by decide +kernel
theorem dX0_keptOctet_7 : decode cX0_keptOctet 7 = .ok (.iload_n 2, 1) := by decide +kernel
theorem dX0_keptOctet_8 : decode cX0_keptOctet 8 = .ok (.invokestatic 33, 3) := by decide +kernel
theorem dX0_keptOctet_11 : decode cX0_keptOctet 11 = .ok (.ifCond .eq 23, 3) := by decide +kernel
theorem dX0_keptOctet_14 : decode cX0_keptOctet 14 = .ok (.aload_n 0, 1) := by decide +kernel
theorem dX0_keptOctet_15 : decode cX0_keptOctet 15 = .ok (.getfield 17, 3) := by decide +kernel
theorem dX0_keptOctet_18 : decode cX0_keptOctet 18 = .ok (.aload_n 0, 1) := by decide +kernel
theorem dX0_keptOctet_19 : decode cX0_keptOctet 19 = .ok (.iload_n 1, 1) := by decide +kernel
theorem dX0_keptOctet_20 : decode cX0_keptOctet 20 = .ok (.invokevirtual 36, 3) := by decide +kernel
theorem dX0_keptOctet_23 : decode cX0_keptOctet 23 = .ok (.aaload, 1) := by decide +kernel
theorem dX0_keptOctet_24 : decode cX0_keptOctet 24 = .ok (.iload_n 1, 1) := by decide +kernel
theorem dX0_keptOctet_25 : decode cX0_keptOctet 25 = .ok (.bipush 16, 2) := by decide +kernel
theorem dX0_keptOctet_27 : decode cX0_keptOctet 27 = .ok (.imul, 1) := by decide +kernel
theorem dX0_keptOctet_28 : decode cX0_keptOctet 28 = .ok (.iload_n 2, 1) := by decide +kernel
theorem dX0_keptOctet_29 : decode cX0_keptOctet 29 = .ok (.iadd, 1) := by decide +kernel
theorem dX0_keptOctet_30 : decode cX0_keptOctet 30 = .ok (.baload, 1) := by decide +kernel
theorem dX0_keptOctet_31 : decode cX0_keptOctet 31 = .ok (.goto 4, 3) := by decide +kernel
theorem dX0_keptOctet_34 : decode cX0_keptOctet 34 = .ok (.iconst 0, 1) := by decide +kernel
theorem dX0_keptOctet_35 : decode cX0_keptOctet 35 = .ok (.ireturn, 1) := by decide +kernel
set_option maxRecDepth 20000 in
theorem ggX0_tear_X0_has : GoodIn wsX0_tear wsX0_has := goodIn_r _ [5] (by decide +kernel) (by decide +kernel)
set_option maxRecDepth 20000 in
theorem gX0_tear_X0_has : GoodIn wsX0_tear (va_wsS RX0 29 yX0_has wsX0_has) := goodIn_app (goodIn_of _ (by decide +kernel)) ggX0_tear_X0_has
set_option maxRecDepth 20000 in
theorem ggX0_tear_X0_keptCopy : GoodIn wsX0_tear wsX0_keptCopy := goodIn_ca (goodIn_r _ [9, 1, 10, 11, 12, 13] (by decide +kernel) (by decide +kernel)) (goodIn_sub (fun _ h => List.mem_cons_of_mem _ (List.mem_append_right _ h)) (by decide +kernel))
set_option maxRecDepth 20000 in
theorem gX0_tear_X0_keptCopy : GoodIn wsX0_tear (wsV RX0 36 RX0 yX0_keptCopy wsX0_keptCopy) := goodIn_app (goodIn_of _ (by decide +kernel)) ggX0_tear_X0_keptCopy
theorem dX0_tear_0 : decode cX0_tear 0 = .ok (.iload_n 1, 1) := by decide +kernel
theorem dX0_tear_1 : decode cX0_tear 1 = .ok (.invokestatic 29, 3) := by decide +kernel
theorem dX0_tear_4 : decode cX0_tear 4 = .ok (.ifCond .eq 18, 3) := by decide +kernel
theorem dX0_tear_7 : decode cX0_tear 7 = .ok (.aload_n 0, 1) := by decide +kernel
theorem dX0_tear_8 : decode cX0_tear 8 = .ok (.getfield 22, 3) := by decide +kernel
theorem dX0_tear_11 : decode cX0_tear 11 = .ok (.iconst 1, 1) := by decide +kernel
theorem dX0_tear_12 : decode cX0_tear 12 = .ok (.aload_n 0, 1) := by decide +kernel
theorem dX0_tear_13 : decode cX0_tear 13 = .ok (.iload_n 1, 1) := by decide +kernel
theorem dX0_tear_14 : decode cX0_tear 14 = .ok (.invokevirtual 36, 3) := by decide +kernel
theorem dX0_tear_17 : decode cX0_tear 17 = .ok (.isub, 1) := by decide +kernel
theorem dX0_tear_18 : decode cX0_tear 18 = .ok (.aaload, 1) := by decide +kernel
theorem dX0_tear_19 : decode cX0_tear 19 = .ok (.iload_n 1, 1) := by decide +kernel
theorem dX0_tear_20 : decode cX0_tear 20 = .ok (.iconst 0, 1) := by decide +kernel
theorem dX0_tear_21 : decode cX0_tear 21 = .ok (.iastore, 1) := by decide +kernel
theorem dX0_tear_22 : decode cX0_tear 22 = .ok (.return_, 1) := by decide +kernel
set_option maxRecDepth 20000 in
theorem ggX0_save_X0_has : GoodIn wsX0_save wsX0_has := goodIn_r _ [12] (by decide +kernel) (by decide +kernel)
set_option maxRecDepth 20000 in
theorem gX0_save_X0_has : GoodIn wsX0_save (va_wsS RX0 29 yX0_has wsX0_has) := goodIn_app (goodIn_of _ (by decide +kernel)) ggX0_save_X0_has
set_option maxRecDepth 20000 in
theorem ggX0_save_X0_keptCopy : GoodIn wsX0_save wsX0_keptCopy := goodIn_ca (goodIn_r _ [16, 7, 17, 18, 19, 20] (by decide +kernel) (by decide +kernel)) (goodIn_sub (fun _ h => List.mem_cons_of_mem _ (List.mem_append_right _ h)) (by decide +kernel))
set_option maxRecDepth 20000 in
theorem gX0_save_X0_keptCopy : GoodIn wsX0_save (wsV RX0 36 RX0 yX0_keptCopy wsX0_keptCopy) := goodIn_app (goodIn_of _ (by decide +kernel)) ggX0_save_X0_keptCopy
theorem dX0_save_0 : decode cX0_save 0 = .ok (.iload_n 1, 1) := by decide +kernel
theorem dX0_save_1 : decode cX0_save 1 = .ok (.invokestatic 29, 3) := by decide +kernel
theorem dX0_save_4 : decode cX0_save 4 = .ok (.ifCond .eq 61, 3) := by decide +kernel
theorem dX0_save_7 : decode cX0_save 7 = .ok (.aload_n 0, 1) := by decide +kernel
theorem dX0_save_8 : decode cX0_save 8 = .ok (.iload_n 1, 1) := by decide +kernel
theorem dX0_save_9 : decode cX0_save 9 = .ok (.invokevirtual 36, 3) := by decide +kernel
theorem dX0_save_12 : decode cX0_save 12 = .ok (.istore_n 2, 1) := by decide +kernel
theorem dX0_save_13 : decode cX0_save 13 = .ok (.iconst 1, 1) := by decide +kernel
theorem dX0_save_14 : decode cX0_save 14 = .ok (.iload_n 2, 1) := by decide +kernel
theorem dX0_save_15 : decode cX0_save 15 = .ok (.isub, 1) := by decide +kernel
theorem dX0_save_16 : decode cX0_save 16 = .ok (.istore_n 3, 1) := by decide +kernel
theorem dX0_save_17 : decode cX0_save 17 = .ok (.aload_n 0, 1) := by decide +kernel
theorem dX0_save_18 : decode cX0_save 18 = .ok (.getfield 11, 3) := by decide +kernel
theorem dX0_save_21 : decode cX0_save 21 = .ok (.iload_n 1, 1) := by decide +kernel
theorem dX0_save_22 : decode cX0_save 22 = .ok (.bipush 16, 2) := by decide +kernel
theorem dX0_save_24 : decode cX0_save 24 = .ok (.imul, 1) := by decide +kernel
theorem dX0_save_25 : decode cX0_save 25 = .ok (.aload_n 0, 1) := by decide +kernel
theorem dX0_save_26 : decode cX0_save 26 = .ok (.getfield 17, 3) := by decide +kernel
theorem dX0_save_29 : decode cX0_save 29 = .ok (.iload_n 3, 1) := by decide +kernel
theorem dX0_save_30 : decode cX0_save 30 = .ok (.aaload, 1) := by decide +kernel
theorem dX0_save_31 : decode cX0_save 31 = .ok (.iload_n 1, 1) := by decide +kernel
theorem dX0_save_32 : decode cX0_save 32 = .ok (.bipush 16, 2) := by decide +kernel
theorem dX0_save_34 : decode cX0_save 34 = .ok (.imul, 1) := by decide +kernel
theorem dX0_save_35 : decode cX0_save 35 = .ok (.bipush 16, 2) := by decide +kernel
theorem dX0_save_37 : decode cX0_save 37 = .ok (.invokestatic 40, 3) := by decide +kernel
theorem dX0_save_40 : decode cX0_save 40 = .ok (.aload_n 0, 1) := by decide +kernel
theorem dX0_save_41 : decode cX0_save 41 = .ok (.getfield 22, 3) := by decide +kernel
theorem dX0_save_44 : decode cX0_save 44 = .ok (.iload_n 3, 1) := by decide +kernel
theorem dX0_save_45 : decode cX0_save 45 = .ok (.aaload, 1) := by decide +kernel
theorem dX0_save_46 : decode cX0_save 46 = .ok (.iload_n 1, 1) := by decide +kernel
theorem dX0_save_47 : decode cX0_save 47 = .ok (.aload_n 0, 1) := by decide +kernel
theorem dX0_save_48 : decode cX0_save 48 = .ok (.getfield 22, 3) := by decide +kernel
theorem dX0_save_51 : decode cX0_save 51 = .ok (.iload_n 2, 1) := by decide +kernel
theorem dX0_save_52 : decode cX0_save 52 = .ok (.aaload, 1) := by decide +kernel
theorem dX0_save_53 : decode cX0_save 53 = .ok (.iload_n 1, 1) := by decide +kernel
theorem dX0_save_54 : decode cX0_save 54 = .ok (.iaload, 1) := by decide +kernel
theorem dX0_save_55 : decode cX0_save 55 = .ok (.iconst 1, 1) := by decide +kernel
theorem dX0_save_56 : decode cX0_save 56 = .ok (.iadd, 1) := by decide +kernel
theorem dX0_save_57 : decode cX0_save 57 = .ok (.iastore, 1) := by decide +kernel
theorem dX0_save_58 : decode cX0_save 58 = .ok (.aload_n 0, 1) := by decide +kernel
theorem dX0_save_59 : decode cX0_save 59 = .ok (.getfield 25, 3) := by decide +kernel
theorem dX0_save_62 : decode cX0_save 62 = .ok (.iload_n 1, 1) := by decide +kernel
theorem dX0_save_63 : decode cX0_save 63 = .ok (.iconst 0, 1) := by decide +kernel
theorem dX0_save_64 : decode cX0_save 64 = .ok (.bastore, 1) := by decide +kernel
theorem dX0_save_65 : decode cX0_save 65 = .ok (.return_, 1) := by decide +kernel
set_option maxRecDepth 20000 in
theorem ggX0_load_X0_keptCopy : GoodIn wsX0_load wsX0_keptCopy := goodIn_ca (goodIn_r _ [12, 13, 14, 15, 16, 17] (by decide +kernel) (by decide +kernel)) (goodIn_sub (fun _ h => List.mem_cons_of_mem _ (List.mem_append_right _ h)) (by decide +kernel))
set_option maxRecDepth 20000 in
theorem gX0_load_X0_keptCopy : GoodIn wsX0_load (wsV RX0 36 RX0 yX0_keptCopy wsX0_keptCopy) := goodIn_app (goodIn_of _ (by decide +kernel)) ggX0_load_X0_keptCopy
theorem dX0_load_0 : decode cX0_load 0 = .ok (.iconst 0, 1) := by decide +kernel
theorem dX0_load_1 : decode cX0_load 1 = .ok (.istore_n 1, 1) := by decide +kernel
theorem dX0_load_2 : decode cX0_load 2 = .ok (.iload_n 1, 1) := by decide +kernel
theorem dX0_load_3 : decode cX0_load 3 = .ok (.bipush 8, 2) := by decide +kernel
theorem dX0_load_5 : decode cX0_load 5 = .ok (.if_icmp .ge 43, 3) := by decide +kernel
theorem dX0_load_8 : decode cX0_load 8 = .ok (.aload_n 0, 1) := by decide +kernel
theorem dX0_load_9 : decode cX0_load 9 = .ok (.getfield 17, 3) := by decide +kernel
theorem dX0_load_12 : decode cX0_load 12 = .ok (.aload_n 0, 1) := by decide +kernel
theorem dX0_load_13 : decode cX0_load 13 = .ok (.iload_n 1, 1) := by decide +kernel
theorem dX0_load_14 : decode cX0_load 14 = .ok (.invokevirtual 36, 3) := by decide +kernel
theorem dX0_load_17 : decode cX0_load 17 = .ok (.aaload, 1) := by decide +kernel
theorem dX0_load_18 : decode cX0_load 18 = .ok (.iload_n 1, 1) := by decide +kernel
theorem dX0_load_19 : decode cX0_load 19 = .ok (.bipush 16, 2) := by decide +kernel
theorem dX0_load_21 : decode cX0_load 21 = .ok (.imul, 1) := by decide +kernel
theorem dX0_load_22 : decode cX0_load 22 = .ok (.aload_n 0, 1) := by decide +kernel
theorem dX0_load_23 : decode cX0_load 23 = .ok (.getfield 11, 3) := by decide +kernel
theorem dX0_load_26 : decode cX0_load 26 = .ok (.iload_n 1, 1) := by decide +kernel
theorem dX0_load_27 : decode cX0_load 27 = .ok (.bipush 16, 2) := by decide +kernel
theorem dX0_load_29 : decode cX0_load 29 = .ok (.imul, 1) := by decide +kernel
theorem dX0_load_30 : decode cX0_load 30 = .ok (.bipush 16, 2) := by decide +kernel
theorem dX0_load_32 : decode cX0_load 32 = .ok (.invokestatic 40, 3) := by decide +kernel
theorem dX0_load_35 : decode cX0_load 35 = .ok (.aload_n 0, 1) := by decide +kernel
theorem dX0_load_36 : decode cX0_load 36 = .ok (.getfield 25, 3) := by decide +kernel
theorem dX0_load_39 : decode cX0_load 39 = .ok (.iload_n 1, 1) := by decide +kernel
theorem dX0_load_40 : decode cX0_load 40 = .ok (.iconst 0, 1) := by decide +kernel
theorem dX0_load_41 : decode cX0_load 41 = .ok (.bastore, 1) := by decide +kernel
theorem dX0_load_42 : decode cX0_load 42 = .ok (.iinc 1 1, 3) := by decide +kernel
theorem dX0_load_45 : decode cX0_load 45 = .ok (.goto (-43), 3) := by decide +kernel
theorem dX0_load_48 : decode cX0_load 48 = .ok (.return_, 1) := by decide +kernel
theorem dX0_keptCopy_0 : decode cX0_keptCopy 0 = .ok (.aload_n 0, 1) := by decide +kernel
theorem dX0_keptCopy_1 : decode cX0_keptCopy 1 = .ok (.getfield 22, 3) := by decide +kernel
theorem dX0_keptCopy_4 : decode cX0_keptCopy 4 = .ok (.iconst 1, 1) := by decide +kernel
theorem dX0_keptCopy_5 : decode cX0_keptCopy 5 = .ok (.aaload, 1) := by decide +kernel
theorem dX0_keptCopy_6 : decode cX0_keptCopy 6 = .ok (.iload_n 1, 1) := by decide +kernel
theorem dX0_keptCopy_7 : decode cX0_keptCopy 7 = .ok (.iaload, 1) := by decide +kernel
theorem dX0_keptCopy_8 : decode cX0_keptCopy 8 = .ok (.aload_n 0, 1) := by decide +kernel
theorem dX0_keptCopy_9 : decode cX0_keptCopy 9 = .ok (.getfield 22, 3) := by decide +kernel
theorem dX0_keptCopy_12 : decode cX0_keptCopy 12 = .ok (.iconst 0, 1) := by decide +kernel
theorem dX0_keptCopy_13 : decode cX0_keptCopy 13 = .ok (.aaload, 1) := by decide +kernel
theorem dX0_keptCopy_14 : decode cX0_keptCopy 14 = .ok (.iload_n 1, 1) := by decide +kernel
theorem dX0_keptCopy_15 : decode cX0_keptCopy 15 = .ok (.iaload, 1) := by decide +kernel
theorem dX0_keptCopy_16 : decode cX0_keptCopy 16 = .ok (.if_icmp .le 7, 3) := by decide +kernel
theorem dX0_keptCopy_19 : decode cX0_keptCopy 19 = .ok (.iconst 1, 1) := by decide +kernel
theorem dX0_keptCopy_20 : decode cX0_keptCopy 20 = .ok (.goto 4, 3) := by decide +kernel
theorem dX0_keptCopy_23 : decode cX0_keptCopy 23 = .ok (.iconst 0, 1) := by decide +kernel
theorem dX0_keptCopy_24 : decode cX0_keptCopy 24 = .ok (.ireturn, 1) := by decide +kernel
theorem dX1_init_0 : decode cX1_init 0 = .ok (.aload_n 0, 1) := by decide +kernel
theorem dX1_init_1 : decode cX1_init 1 = .ok (.invokespecial 3, 3) := by decide +kernel
theorem dX1_init_4 : decode cX1_init 4 = .ok (.aload_n 0, 1) := by decide +kernel
theorem dX1_init_5 : decode cX1_init 5 = .ok (.bipush 21, 2) := by decide +kernel
theorem dX1_init_7 : decode cX1_init 7 = .ok (.newarray .boolean, 2) := by decide +kernel
theorem dX1_init_9 : decode cX1_init 9 = .ok (.putfield 9, 3) := by decide +kernel
theorem dX1_init_12 : decode cX1_init 12 = .ok (.aload_n 0, 1) := by decide +kernel
theorem dX1_init_13 : decode cX1_init 13 = .ok (.bipush 21, 2) := by decide +kernel
theorem dX1_init_15 : decode cX1_init 15 = .ok (.newarray .int, 2) := by decide +kernel
theorem dX1_init_17 : decode cX1_init 17 = .ok (.putfield 13, 3) := by decide +kernel
theorem dX1_init_20 : decode cX1_init 20 = .ok (.aload_n 0, 1) := by decide +kernel
theorem dX1_init_21 : decode cX1_init 21 = .ok (.bipush 21, 2) := by decide +kernel
theorem dX1_init_23 : decode cX1_init 23 = .ok (.newarray .boolean, 2) := by decide +kernel
theorem dX1_init_25 : decode cX1_init 25 = .ok (.putfield 17, 3) := by decide +kernel
theorem dX1_init_28 : decode cX1_init 28 = .ok (.aload_n 0, 1) := by decide +kernel
theorem dX1_init_29 : decode cX1_init 29 = .ok (.bipush 40, 2) := by decide +kernel
theorem dX1_init_31 : decode cX1_init 31 = .ok (.newarray .int, 2) := by decide +kernel
theorem dX1_init_33 : decode cX1_init 33 = .ok (.putfield 20, 3) := by decide +kernel
theorem dX1_init_36 : decode cX1_init 36 = .ok (.return_, 1) := by decide +kernel
theorem dX1_has_0 : decode cX1_has 0 = .ok (.iload_n 0, 1) := by decide +kernel
theorem dX1_has_1 : decode cX1_has 1 = .ok (.iconst 1, 1) := by decide +kernel
theorem dX1_has_2 : decode cX1_has 2 = .ok (.if_icmp .lt 13, 3) := by decide +kernel
theorem dX1_has_5 : decode cX1_has 5 = .ok (.iload_n 0, 1) := by decide +kernel
theorem dX1_has_6 : decode cX1_has 6 = .ok (.bipush 20, 2) := by decide +kernel
theorem dX1_has_8 : decode cX1_has 8 = .ok (.if_icmp .gt 7, 3) := by decide +kernel
theorem dX1_has_11 : decode cX1_has 11 = .ok (.iconst 1, 1) := by decide +kernel
theorem dX1_has_12 : decode cX1_has 12 = .ok (.goto 4, 3) := by decide +kernel
theorem dX1_has_15 : decode cX1_has 15 = .ok (.iconst 0, 1) := by decide +kernel
theorem dX1_has_16 : decode cX1_has 16 = .ok (.ireturn, 1) := by decide +kernel
theorem dX1_howMany_0 : decode cX1_howMany 0 = .ok (.aload_n 0, 1) := by decide +kernel
theorem dX1_howMany_1 : decode cX1_howMany 1 = .ok (.getfield 23, 3) := by decide +kernel
theorem dX1_howMany_4 : decode cX1_howMany 4 = .ok (.ireturn, 1) := by decide +kernel
set_option maxRecDepth 20000 in
theorem ggX1_tell_X1_has : GoodIn wsX1_tell wsX1_has := goodIn_r _ [8] (by decide +kernel) (by decide +kernel)
set_option maxRecDepth 20000 in
theorem gX1_tell_X1_has : GoodIn wsX1_tell (va_wsS RX1 27 yX1_has wsX1_has) := goodIn_app (goodIn_of _ (by decide +kernel)) ggX1_tell_X1_has
theorem dX1_tell_0 : decode cX1_tell 0 = .ok (.iload_n 1, 1) := by decide +kernel
theorem dX1_tell_1 : decode cX1_tell 1 = .ok (.invokestatic 27, 3) := by decide +kernel
theorem dX1_tell_4 : decode cX1_tell 4 = .ok (.ifCond .ne 4, 3) := by decide +kernel
theorem dX1_tell_7 : decode cX1_tell 7 = .ok (.return_, 1) := by decide +kernel
theorem dX1_tell_8 : decode cX1_tell 8 = .ok (.aload_n 0, 1) := by decide +kernel
theorem dX1_tell_9 : decode cX1_tell 9 = .ok (.getfield 9, 3) := by decide +kernel
theorem dX1_tell_12 : decode cX1_tell 12 = .ok (.iload_n 1, 1) := by decide +kernel
theorem dX1_tell_13 : decode cX1_tell 13 = .ok (.baload, 1) := by decide +kernel
theorem dX1_tell_14 : decode cX1_tell 14 = .ok (.ifCond .ne 20, 3) := by decide +kernel
theorem dX1_tell_17 : decode cX1_tell 17 = .ok (.aload_n 0, 1) := by decide +kernel
theorem dX1_tell_18 : decode cX1_tell 18 = .ok (.getfield 9, 3) := by decide +kernel
theorem dX1_tell_21 : decode cX1_tell 21 = .ok (.iload_n 1, 1) := by decide +kernel
theorem dX1_tell_22 : decode cX1_tell 22 = .ok (.iconst 1, 1) := by decide +kernel
theorem dX1_tell_23 : decode cX1_tell 23 = .ok (.bastore, 1) := by decide +kernel
theorem dX1_tell_24 : decode cX1_tell 24 = .ok (.aload_n 0, 1) := by decide +kernel
theorem dX1_tell_25 : decode cX1_tell 25 = .ok (.dup, 1) := by decide +kernel
theorem dX1_tell_26 : decode cX1_tell 26 = .ok (.getfield 23, 3) := by decide +kernel
theorem dX1_tell_29 : decode cX1_tell 29 = .ok (.iconst 1, 1) := by decide +kernel
theorem dX1_tell_30 : decode cX1_tell 30 = .ok (.iadd, 1) := by decide +kernel
theorem dX1_tell_31 : decode cX1_tell 31 = .ok (.putfield 23, 3) := by decide +kernel
theorem dX1_tell_34 : decode cX1_tell 34 = .ok (.aload_n 0, 1) := by decide +kernel
theorem dX1_tell_35 : decode cX1_tell 35 = .ok (.getfield 13, 3) := by decide +kernel
theorem dX1_tell_38 : decode cX1_tell 38 = .ok (.iload_n 1, 1) := by decide +kernel
theorem dX1_tell_39 : decode cX1_tell 39 = .ok (.iload_n 2, 1) := by decide +kernel
theorem dX1_tell_40 : decode cX1_tell 40 = .ok (.bipush 21, 2) := by decide +kernel
theorem dX1_tell_42 : decode cX1_tell 42 = .ok (.imul, 1) := by decide +kernel
theorem dX1_tell_43 : decode cX1_tell 43 = .ok (.iload_n 1, 1) := by decide +kernel
theorem dX1_tell_44 : decode cX1_tell 44 = .ok (.iadd, 1) := by decide +kernel
theorem dX1_tell_45 : decode cX1_tell 45 = .ok (.iastore, 1) := by decide +kernel
theorem dX1_tell_46 : decode cX1_tell 46 = .ok (.aload_n 0, 1) := by decide +kernel
theorem dX1_tell_47 : decode cX1_tell 47 = .ok (.getfield 17, 3) := by decide +kernel
theorem dX1_tell_50 : decode cX1_tell 50 = .ok (.iload_n 1, 1) := by decide +kernel
theorem dX1_tell_51 : decode cX1_tell 51 = .ok (.iload_n 3, 1) := by decide +kernel
theorem dX1_tell_52 : decode cX1_tell 52 = .ok (.bastore, 1) := by decide +kernel
theorem dX1_tell_53 : decode cX1_tell 53 = .ok (.return_, 1) := by decide +kernel
set_option maxRecDepth 20000 in
theorem ggX1_beginAll_X1_placeBehind : GoodIn wsX1_beginAll wsX1_placeBehind := goodIn_ca (goodIn_r _ [7, 8, 9, 26, 27, 28, 29, 30, 31] (by decide +kernel) (by decide +kernel)) (goodIn_sub (fun _ h => List.mem_cons_of_mem _ (List.mem_append_right _ h)) (by decide +kernel))
set_option maxRecDepth 20000 in
theorem gX1_beginAll_X1_placeBehind : GoodIn wsX1_beginAll (wsV RX1 34 RX1 yX1_placeBehind wsX1_placeBehind) := goodIn_app (goodIn_of _ (by decide +kernel)) ggX1_beginAll_X1_placeBehind
set_option maxRecDepth 20000 in
theorem ggX1_beginAll_X1_note : GoodIn wsX1_beginAll wsX1_note := goodIn_ca (goodIn_r _ [13, 1, 14, 26, 27, 28, 29, 30, 31] (by decide +kernel) (by decide +kernel)) (goodIn_sub (fun _ h => List.mem_cons_of_mem _ (List.mem_append_right _ h)) (by decide +kernel))
set_option maxRecDepth 20000 in
theorem gX1_beginAll_X1_note : GoodIn wsX1_beginAll (wsV RX1 38 RX1 yX1_note wsX1_note) := goodIn_app (goodIn_of _ (by decide +kernel)) ggX1_beginAll_X1_note
set_option maxRecDepth 20000 in
theorem ggX1_beginAll_X1_has : GoodIn wsX1_beginAll wsX1_has := goodIn_r _ [17] (by decide +kernel) (by decide +kernel)
set_option maxRecDepth 20000 in
theorem gX1_beginAll_X1_has : GoodIn wsX1_beginAll (va_wsS RX1 27 yX1_has wsX1_has) := goodIn_app (goodIn_of _ (by decide +kernel)) ggX1_beginAll_X1_has
set_option maxRecDepth 20000 in
theorem ggX1_beginAll_X1_endThoseBeforeTheLast : GoodIn wsX1_beginAll wsX1_endThoseBeforeTheLast := goodIn_ca (goodIn_r _ [21, 1, 22, 23, 24, 6, 25, 14, 10, 11, 12, 13, 26, 27, 28, 29, 30, 31] (by decide +kernel) (by decide +kernel)) (goodIn_sub (fun _ h => List.mem_cons_of_mem _ (List.mem_append_right _ h)) (by decide +kernel))
set_option maxRecDepth 20000 in
theorem gX1_beginAll_X1_endThoseBeforeTheLast : GoodIn wsX1_beginAll (wsV RX1 42 RX1 yX1_endThoseBeforeTheLast wsX1_endThoseBeforeTheLast) := goodIn_app (goodIn_of _ (by decide +kernel)) ggX1_beginAll_X1_endThoseBeforeTheLast
theorem dX1_beginAll_0 : decode cX1_beginAll 0 = .ok (.aload_n 0, 1) := by decide +kernel
theorem dX1_beginAll_1 : decode cX1_beginAll 1 = .ok (.iconst 0, 1) := by decide +kernel
theorem dX1_beginAll_2 : decode cX1_beginAll 2 = .ok (.putfield 31, 3) := by decide +kernel
theorem dX1_beginAll_5 : decode cX1_beginAll 5 = .ok (.aload_n 0, 1) := by decide +kernel
theorem dX1_beginAll_6 : decode cX1_beginAll 6 = .ok (.iconst (-1), 1) := by decide +kernel
theorem dX1_beginAll_7 : decode cX1_beginAll 7 = .ok (.invokevirtual 34, 3) := by decide +kernel
theorem dX1_beginAll_10 : decode cX1_beginAll 10 = .ok (.istore_n 1, 1) := by decide +kernel
theorem dX1_beginAll_11 : decode cX1_beginAll 11 = .ok (.iconst 0, 1) := by decide +kernel
theorem dX1_beginAll_12 : decode cX1_beginAll 12 = .ok (.istore_n 2, 1) := by decide +kernel
theorem dX1_beginAll_13 : decode cX1_beginAll 13 = .ok (.iload_n 2, 1) := by decide +kernel
theorem dX1_beginAll_14 : decode cX1_beginAll 14 = .ok (.bipush 20, 2) := by decide +kernel
theorem dX1_beginAll_16 : decode cX1_beginAll 16 = .ok (.if_icmp .ge 52, 3) := by decide +kernel
theorem dX1_beginAll_19 : decode cX1_beginAll 19 = .ok (.iload_n 1, 1) := by decide +kernel
theorem dX1_beginAll_20 : decode cX1_beginAll 20 = .ok (.iconst (-1), 1) := by decide +kernel
theorem dX1_beginAll_21 : decode cX1_beginAll 21 = .ok (.if_icmp .eq 47, 3) := by decide +kernel
theorem dX1_beginAll_24 : decode cX1_beginAll 24 = .ok (.iload_n 1, 1) := by decide +kernel
theorem dX1_beginAll_25 : decode cX1_beginAll 25 = .ok (.bipush 21, 2) := by decide +kernel
theorem dX1_beginAll_27 : decode cX1_beginAll 27 = .ok (.irem, 1) := by decide +kernel
theorem dX1_beginAll_28 : decode cX1_beginAll 28 = .ok (.istore_n 3, 1) := by decide +kernel
theorem dX1_beginAll_29 : decode cX1_beginAll 29 = .ok (.aload_n 0, 1) := by decide +kernel
theorem dX1_beginAll_30 : decode cX1_beginAll 30 = .ok (.iload_n 3, 1) := by decide +kernel
theorem dX1_beginAll_31 : decode cX1_beginAll 31 = .ok (.invokevirtual 38, 3) := by decide +kernel
theorem dX1_beginAll_34 : decode cX1_beginAll 34 = .ok (.iload_n 3, 1) := by decide +kernel
theorem dX1_beginAll_35 : decode cX1_beginAll 35 = .ok (.invokestatic 27, 3) := by decide +kernel
theorem dX1_beginAll_38 : decode cX1_beginAll 38 = .ok (.ifCond .eq 18, 3) := by decide +kernel
theorem dX1_beginAll_41 : decode cX1_beginAll 41 = .ok (.aload_n 0, 1) := by decide +kernel
theorem dX1_beginAll_42 : decode cX1_beginAll 42 = .ok (.getfield 17, 3) := by decide +kernel
theorem dX1_beginAll_45 : decode cX1_beginAll 45 = .ok (.iload_n 3, 1) := by decide +kernel
theorem dX1_beginAll_46 : decode cX1_beginAll 46 = .ok (.baload, 1) := by decide +kernel
theorem dX1_beginAll_47 : decode cX1_beginAll 47 = .ok (.ifCond .eq 9, 3) := by decide +kernel
theorem dX1_beginAll_50 : decode cX1_beginAll 50 = .ok (.aload_n 0, 1) := by decide +kernel
theorem dX1_beginAll_51 : decode cX1_beginAll 51 = .ok (.invokevirtual 42, 3) := by decide +kernel
theorem dX1_beginAll_54 : decode cX1_beginAll 54 = .ok (.iconst 0, 1) := by decide +kernel
theorem dX1_beginAll_55 : decode cX1_beginAll 55 = .ok (.ireturn, 1) := by decide +kernel
theorem dX1_beginAll_56 : decode cX1_beginAll 56 = .ok (.aload_n 0, 1) := by decide +kernel
theorem dX1_beginAll_57 : decode cX1_beginAll 57 = .ok (.iload_n 1, 1) := by decide +kernel
theorem dX1_beginAll_58 : decode cX1_beginAll 58 = .ok (.invokevirtual 34, 3) := by decide +kernel
theorem dX1_beginAll_61 : decode cX1_beginAll 61 = .ok (.istore_n 1, 1) := by decide +kernel
theorem dX1_beginAll_62 : decode cX1_beginAll 62 = .ok (.iinc 2 1, 3) := by decide +kernel
theorem dX1_beginAll_65 : decode cX1_beginAll 65 = .ok (.goto (-52), 3) := by decide +kernel
theorem dX1_beginAll_68 : decode cX1_beginAll 68 = .ok (.iconst 1, 1) := by decide +kernel
theorem dX1_beginAll_69 : decode cX1_beginAll 69 = .ok (.ireturn, 1) := by decide +kernel
theorem dX1_thing_0 : decode cX1_thing 0 = .ok (.iload_n 1, 1) := by decide +kernel
theorem dX1_thing_1 : decode cX1_thing 1 = .ok (.ifCond .lt 29, 3) := by decide +kernel
theorem dX1_thing_4 : decode cX1_thing 4 = .ok (.iload_n 1, 1) := by decide +kernel
theorem dX1_thing_5 : decode cX1_thing 5 = .ok (.aload_n 0, 1) := by decide +kernel
theorem dX1_thing_6 : decode cX1_thing 6 = .ok (.getfield 31, 3) := by decide +kernel
theorem dX1_thing_9 : decode cX1_thing 9 = .ok (.if_icmp .ge 21, 3) := by decide +kernel
theorem dX1_thing_12 : decode cX1_thing 12 = .ok (.iload_n 1, 1) := by decide +kernel
theorem dX1_thing_13 : decode cX1_thing 13 = .ok (.aload_n 0, 1) := by decide +kernel
theorem dX1_thing_14 : decode cX1_thing 14 = .ok (.getfield 20, 3) := by decide +kernel
theorem dX1_thing_17 : decode cX1_thing 17 = .ok (.arraylength, 1) := by decide +kernel
theorem dX1_thing_18 : decode cX1_thing 18 = .ok (.if_icmp .ge 12, 3) := by decide +kernel
theorem dX1_thing_21 : decode cX1_thing 21 = .ok (.aload_n 0, 1) := by decide +kernel
theorem dX1_thing_22 : decode cX1_thing 22 = .ok (.getfield 20, 3) := by decide +kernel
theorem dX1_thing_25 : decode cX1_thing 25 = .ok (.iload_n 1, 1) := by decide +kernel
theorem dX1_thing_26 : decode cX1_thing 26 = .ok (.iaload, 1) := by decide +kernel
theorem dX1_thing_27 : decode cX1_thing 27 = .ok (.goto 4, 3) := by decide +kernel
theorem dX1_thing_30 : decode cX1_thing 30 = .ok (.iconst 0, 1) := by decide +kernel
theorem dX1_thing_31 : decode cX1_thing 31 = .ok (.ireturn, 1) := by decide +kernel
theorem dX1_placeBehind_0 : decode cX1_placeBehind 0 = .ok (.iconst (-1), 1) := by decide +kernel
theorem dX1_placeBehind_1 : decode cX1_placeBehind 1 = .ok (.istore_n 2, 1) := by decide +kernel
theorem dX1_placeBehind_2 : decode cX1_placeBehind 2 = .ok (.iconst 1, 1) := by decide +kernel
theorem dX1_placeBehind_3 : decode cX1_placeBehind 3 = .ok (.istore_n 3, 1) := by decide +kernel
theorem dX1_placeBehind_4 : decode cX1_placeBehind 4 = .ok (.iload_n 3, 1) := by decide +kernel
theorem dX1_placeBehind_5 : decode cX1_placeBehind 5 = .ok (.bipush 20, 2) := by decide +kernel
theorem dX1_placeBehind_7 : decode cX1_placeBehind 7 = .ok (.if_icmp .gt 50, 3) := by decide +kernel
theorem dX1_placeBehind_10 : decode cX1_placeBehind 10 = .ok (.aload_n 0, 1) := by decide +kernel
theorem dX1_placeBehind_11 : decode cX1_placeBehind 11 = .ok (.getfield 9, 3) := by decide +kernel
theorem dX1_placeBehind_14 : decode cX1_placeBehind 14 = .ok (.iload_n 3, 1) := by decide +kernel
