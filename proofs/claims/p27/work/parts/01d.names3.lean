theorem dX4_count_6 : decode cX4_count 6 = .ok (.getfield 9, 3) := by decide +kernel
theorem dX4_count_9 : decode cX4_count 9 = .ok (.arraylength, 1) := by decide +kernel
theorem dX4_count_10 : decode cX4_count 10 = .ok (.if_icmp .ge 22, 3) := by decide +kernel
theorem dX4_count_13 : decode cX4_count 13 = .ok (.aload_n 0, 1) := by decide +kernel
theorem dX4_count_14 : decode cX4_count 14 = .ok (.getfield 9, 3) := by decide +kernel
theorem dX4_count_17 : decode cX4_count 17 = .ok (.iload_n 3, 1) := by decide +kernel
theorem dX4_count_18 : decode cX4_count 18 = .ok (.iaload, 1) := by decide +kernel
theorem dX4_count_19 : decode cX4_count 19 = .ok (.iload_n 1, 1) := by decide +kernel
theorem dX4_count_20 : decode cX4_count 20 = .ok (.if_icmp .ne 6, 3) := by decide +kernel
theorem dX4_count_23 : decode cX4_count 23 = .ok (.iinc 2 1, 3) := by decide +kernel
theorem dX4_count_26 : decode cX4_count 26 = .ok (.iinc 3 1, 3) := by decide +kernel
theorem dX4_count_29 : decode cX4_count 29 = .ok (.goto (-25), 3) := by decide +kernel
theorem dX4_count_32 : decode cX4_count 32 = .ok (.iload_n 2, 1) := by decide +kernel
theorem dX4_count_33 : decode cX4_count 33 = .ok (.ireturn, 1) := by decide +kernel
set_option maxRecDepth 20000 in
theorem ggX5_init_X4_init : GoodIn wsX5_init wsX4_init := goodIn_r _ [11, 12, 2, 3, 13, 14, 15] (by decide +kernel) (by decide +kernel)
set_option maxRecDepth 20000 in
theorem gX5_init_X4_init : GoodIn wsX5_init (wsX4_init) := ggX5_init_X4_init
theorem dX5_init_0 : decode cX5_init 0 = .ok (.aload_n 0, 1) := by decide +kernel
theorem dX5_init_1 : decode cX5_init 1 = .ok (.invokespecial 3, 3) := by decide +kernel
theorem dX5_init_4 : decode cX5_init 4 = .ok (.aload_n 0, 1) := by decide +kernel
theorem dX5_init_5 : decode cX5_init 5 = .ok (.new 9, 3) := by decide +kernel
theorem dX5_init_8 : decode cX5_init 8 = .ok (.dup, 1) := by decide +kernel
theorem dX5_init_9 : decode cX5_init 9 = .ok (.iconst 4, 1) := by decide +kernel
theorem dX5_init_10 : decode cX5_init 10 = .ok (.iconst 0, 1) := by decide +kernel
theorem dX5_init_11 : decode cX5_init 11 = .ok (.invokespecial 11, 3) := by decide +kernel
theorem dX5_init_14 : decode cX5_init 14 = .ok (.putfield 14, 3) := by decide +kernel
theorem dX5_init_17 : decode cX5_init 17 = .ok (.aload_n 0, 1) := by decide +kernel
theorem dX5_init_18 : decode cX5_init 18 = .ok (.new 9, 3) := by decide +kernel
theorem dX5_init_21 : decode cX5_init 21 = .ok (.dup, 1) := by decide +kernel
theorem dX5_init_22 : decode cX5_init 22 = .ok (.bipush 32, 2) := by decide +kernel
theorem dX5_init_24 : decode cX5_init 24 = .ok (.iconst (-1), 1) := by decide +kernel
theorem dX5_init_25 : decode cX5_init 25 = .ok (.invokespecial 11, 3) := by decide +kernel
theorem dX5_init_28 : decode cX5_init 28 = .ok (.putfield 20, 3) := by decide +kernel
theorem dX5_init_31 : decode cX5_init 31 = .ok (.return_, 1) := by decide +kernel
set_option maxRecDepth 20000 in
theorem ggX5_isThere_X4_get : GoodIn wsX5_isThere wsX4_get := goodIn_r _ [6, 7, 10] (by decide +kernel) (by decide +kernel)
set_option maxRecDepth 20000 in
theorem gX5_isThere_X4_get : GoodIn wsX5_isThere (wsV RX5 23 RX4 yX4_get wsX4_get) := goodIn_app (goodIn_of _ (by decide +kernel)) ggX5_isThere_X4_get
theorem dX5_isThere_0 : decode cX5_isThere 0 = .ok (.aload_n 0, 1) := by decide +kernel
theorem dX5_isThere_1 : decode cX5_isThere 1 = .ok (.getfield 14, 3) := by decide +kernel
theorem dX5_isThere_4 : decode cX5_isThere 4 = .ok (.iload_n 1, 1) := by decide +kernel
theorem dX5_isThere_5 : decode cX5_isThere 5 = .ok (.invokevirtual 23, 3) := by decide +kernel
theorem dX5_isThere_8 : decode cX5_isThere 8 = .ok (.ifCond .le 7, 3) := by decide +kernel
theorem dX5_isThere_11 : decode cX5_isThere 11 = .ok (.iconst 1, 1) := by decide +kernel
theorem dX5_isThere_12 : decode cX5_isThere 12 = .ok (.goto 4, 3) := by decide +kernel
theorem dX5_isThere_15 : decode cX5_isThere 15 = .ok (.iconst 0, 1) := by decide +kernel
theorem dX5_isThere_16 : decode cX5_isThere 16 = .ok (.ireturn, 1) := by decide +kernel
set_option maxRecDepth 20000 in
theorem ggX5_count_X4_count : GoodIn wsX5_count wsX4_count := goodIn_r _ [6, 7, 10] (by decide +kernel) (by decide +kernel)
set_option maxRecDepth 20000 in
theorem gX5_count_X4_count : GoodIn wsX5_count (wsV RX5 27 RX4 yX4_count wsX4_count) := goodIn_app (goodIn_of _ (by decide +kernel)) ggX5_count_X4_count
theorem dX5_count_0 : decode cX5_count 0 = .ok (.iconst 4, 1) := by decide +kernel
theorem dX5_count_1 : decode cX5_count 1 = .ok (.aload_n 0, 1) := by decide +kernel
theorem dX5_count_2 : decode cX5_count 2 = .ok (.getfield 14, 3) := by decide +kernel
theorem dX5_count_5 : decode cX5_count 5 = .ok (.iconst 0, 1) := by decide +kernel
theorem dX5_count_6 : decode cX5_count 6 = .ok (.invokevirtual 27, 3) := by decide +kernel
theorem dX5_count_9 : decode cX5_count 9 = .ok (.isub, 1) := by decide +kernel
theorem dX5_count_10 : decode cX5_count 10 = .ok (.ireturn, 1) := by decide +kernel
set_option maxRecDepth 20000 in
theorem ggX5_entries_X4_get : GoodIn wsX5_entries wsX4_get := goodIn_r _ [6, 7, 10] (by decide +kernel) (by decide +kernel)
set_option maxRecDepth 20000 in
theorem gX5_entries_X4_get : GoodIn wsX5_entries (wsV RX5 23 RX4 yX4_get wsX4_get) := goodIn_app (goodIn_of _ (by decide +kernel)) ggX5_entries_X4_get
theorem dX5_entries_0 : decode cX5_entries 0 = .ok (.iconst 0, 1) := by decide +kernel
theorem dX5_entries_1 : decode cX5_entries 1 = .ok (.istore_n 1, 1) := by decide +kernel
theorem dX5_entries_2 : decode cX5_entries 2 = .ok (.iconst 0, 1) := by decide +kernel
theorem dX5_entries_3 : decode cX5_entries 3 = .ok (.istore_n 2, 1) := by decide +kernel
theorem dX5_entries_4 : decode cX5_entries 4 = .ok (.iload_n 2, 1) := by decide +kernel
theorem dX5_entries_5 : decode cX5_entries 5 = .ok (.iconst 4, 1) := by decide +kernel
theorem dX5_entries_6 : decode cX5_entries 6 = .ok (.if_icmp .ge 20, 3) := by decide +kernel
theorem dX5_entries_9 : decode cX5_entries 9 = .ok (.iload_n 1, 1) := by decide +kernel
theorem dX5_entries_10 : decode cX5_entries 10 = .ok (.aload_n 0, 1) := by decide +kernel
theorem dX5_entries_11 : decode cX5_entries 11 = .ok (.getfield 14, 3) := by decide +kernel
theorem dX5_entries_14 : decode cX5_entries 14 = .ok (.iload_n 2, 1) := by decide +kernel
theorem dX5_entries_15 : decode cX5_entries 15 = .ok (.invokevirtual 23, 3) := by decide +kernel
theorem dX5_entries_18 : decode cX5_entries 18 = .ok (.iadd, 1) := by decide +kernel
theorem dX5_entries_19 : decode cX5_entries 19 = .ok (.istore_n 1, 1) := by decide +kernel
theorem dX5_entries_20 : decode cX5_entries 20 = .ok (.iinc 2 1, 3) := by decide +kernel
theorem dX5_entries_23 : decode cX5_entries 23 = .ok (.goto (-19), 3) := by decide +kernel
theorem dX5_entries_26 : decode cX5_entries 26 = .ok (.iload_n 1, 1) := by decide +kernel
theorem dX5_entries_27 : decode cX5_entries 27 = .ok (.ireturn, 1) := by decide +kernel
set_option maxRecDepth 20000 in
theorem ggX5_firstFree_X5_isThere : GoodIn wsX5_firstFree wsX5_isThere := goodIn_r _ [5, 6, 7, 8, 9, 10, 11, 12, 13, 14, 15] (by decide +kernel) (by decide +kernel)
set_option maxRecDepth 20000 in
theorem gX5_firstFree_X5_isThere : GoodIn wsX5_firstFree (wsV RX5 30 RX5 yX5_isThere wsX5_isThere) := goodIn_app (goodIn_of _ (by decide +kernel)) ggX5_firstFree_X5_isThere
theorem dX5_firstFree_0 : decode cX5_firstFree 0 = .ok (.iconst 0, 1) := by decide +kernel
theorem dX5_firstFree_1 : decode cX5_firstFree 1 = .ok (.istore_n 1, 1) := by decide +kernel
theorem dX5_firstFree_2 : decode cX5_firstFree 2 = .ok (.iload_n 1, 1) := by decide +kernel
theorem dX5_firstFree_3 : decode cX5_firstFree 3 = .ok (.iconst 4, 1) := by decide +kernel
theorem dX5_firstFree_4 : decode cX5_firstFree 4 = .ok (.if_icmp .ge 19, 3) := by decide +kernel
theorem dX5_firstFree_7 : decode cX5_firstFree 7 = .ok (.aload_n 0, 1) := by decide +kernel
theorem dX5_firstFree_8 : decode cX5_firstFree 8 = .ok (.iload_n 1, 1) := by decide +kernel
theorem dX5_firstFree_9 : decode cX5_firstFree 9 = .ok (.invokevirtual 30, 3) := by decide +kernel
theorem dX5_firstFree_12 : decode cX5_firstFree 12 = .ok (.ifCond .ne 5, 3) := by decide +kernel
theorem dX5_firstFree_15 : decode cX5_firstFree 15 = .ok (.iload_n 1, 1) := by decide +kernel
theorem dX5_firstFree_16 : decode cX5_firstFree 16 = .ok (.ireturn, 1) := by decide +kernel
theorem dX5_firstFree_17 : decode cX5_firstFree 17 = .ok (.iinc 1 1, 3) := by decide +kernel
theorem dX5_firstFree_20 : decode cX5_firstFree 20 = .ok (.goto (-18), 3) := by decide +kernel
theorem dX5_firstFree_23 : decode cX5_firstFree 23 = .ok (.iconst (-1), 1) := by decide +kernel
theorem dX5_firstFree_24 : decode cX5_firstFree 24 = .ok (.ireturn, 1) := by decide +kernel
set_option maxRecDepth 20000 in
theorem ggX5_entry_X4_get : GoodIn wsX5_entry wsX4_get := goodIn_r _ [6, 7, 10] (by decide +kernel) (by decide +kernel)
set_option maxRecDepth 20000 in
theorem gX5_entry_X4_get : GoodIn wsX5_entry (wsV RX5 23 RX4 yX4_get wsX4_get) := goodIn_app (goodIn_of _ (by decide +kernel)) ggX5_entry_X4_get
theorem dX5_entry_0 : decode cX5_entry 0 = .ok (.aload_n 0, 1) := by decide +kernel
theorem dX5_entry_1 : decode cX5_entry 1 = .ok (.getfield 20, 3) := by decide +kernel
theorem dX5_entry_4 : decode cX5_entry 4 = .ok (.iload_n 1, 1) := by decide +kernel
theorem dX5_entry_5 : decode cX5_entry 5 = .ok (.bipush 8, 2) := by decide +kernel
theorem dX5_entry_7 : decode cX5_entry 7 = .ok (.imul, 1) := by decide +kernel
theorem dX5_entry_8 : decode cX5_entry 8 = .ok (.iload_n 2, 1) := by decide +kernel
theorem dX5_entry_9 : decode cX5_entry 9 = .ok (.iadd, 1) := by decide +kernel
theorem dX5_entry_10 : decode cX5_entry 10 = .ok (.invokevirtual 23, 3) := by decide +kernel
theorem dX5_entry_13 : decode cX5_entry 13 = .ok (.ireturn, 1) := by decide +kernel
set_option maxRecDepth 20000 in
theorem ggX5_top_X5_isThere : GoodIn wsX5_top wsX5_isThere := goodIn_r _ [6, 1, 7, 8, 9, 10, 11, 12, 18, 19, 20] (by decide +kernel) (by decide +kernel)
set_option maxRecDepth 20000 in
theorem gX5_top_X5_isThere : GoodIn wsX5_top (wsV RX5 30 RX5 yX5_isThere wsX5_isThere) := goodIn_app (goodIn_of _ (by decide +kernel)) ggX5_top_X5_isThere
set_option maxRecDepth 20000 in
theorem ggX5_top_X4_get : GoodIn wsX5_top wsX4_get := goodIn_r _ [11, 12, 20] (by decide +kernel) (by decide +kernel)
set_option maxRecDepth 20000 in
theorem gX5_top_X4_get : GoodIn wsX5_top (wsV RX5 23 RX4 yX4_get wsX4_get) := goodIn_app (goodIn_of _ (by decide +kernel)) ggX5_top_X4_get
set_option maxRecDepth 20000 in
theorem ggX5_top_X5_entry : GoodIn wsX5_top wsX5_entry := goodIn_r _ [16, 17, 7, 8, 9, 10, 11, 12, 18, 19, 20] (by decide +kernel) (by decide +kernel)
set_option maxRecDepth 20000 in
theorem gX5_top_X5_entry : GoodIn wsX5_top (wsV RX5 34 RX5 yX5_entry wsX5_entry) := goodIn_app (goodIn_of _ (by decide +kernel)) ggX5_top_X5_entry
theorem dX5_top_0 : decode cX5_top 0 = .ok (.aload_n 0, 1) := by decide +kernel
theorem dX5_top_1 : decode cX5_top 1 = .ok (.iload_n 1, 1) := by decide +kernel
theorem dX5_top_2 : decode cX5_top 2 = .ok (.invokevirtual 30, 3) := by decide +kernel
theorem dX5_top_5 : decode cX5_top 5 = .ok (.ifCond .eq 21, 3) := by decide +kernel
theorem dX5_top_8 : decode cX5_top 8 = .ok (.aload_n 0, 1) := by decide +kernel
theorem dX5_top_9 : decode cX5_top 9 = .ok (.iload_n 1, 1) := by decide +kernel
theorem dX5_top_10 : decode cX5_top 10 = .ok (.aload_n 0, 1) := by decide +kernel
theorem dX5_top_11 : decode cX5_top 11 = .ok (.getfield 14, 3) := by decide +kernel
theorem dX5_top_14 : decode cX5_top 14 = .ok (.iload_n 1, 1) := by decide +kernel
theorem dX5_top_15 : decode cX5_top 15 = .ok (.invokevirtual 23, 3) := by decide +kernel
theorem dX5_top_18 : decode cX5_top 18 = .ok (.iconst 1, 1) := by decide +kernel
theorem dX5_top_19 : decode cX5_top 19 = .ok (.isub, 1) := by decide +kernel
theorem dX5_top_20 : decode cX5_top 20 = .ok (.invokevirtual 34, 3) := by decide +kernel
theorem dX5_top_23 : decode cX5_top 23 = .ok (.goto 4, 3) := by decide +kernel
theorem dX5_top_26 : decode cX5_top 26 = .ok (.iconst (-1), 1) := by decide +kernel
theorem dX5_top_27 : decode cX5_top 27 = .ok (.ireturn, 1) := by decide +kernel
set_option maxRecDepth 20000 in
theorem ggX5_push_X4_get : GoodIn wsX5_push wsX4_get := goodIn_r _ [7, 8, 21] (by decide +kernel) (by decide +kernel)
set_option maxRecDepth 20000 in
theorem gX5_push_X4_get : GoodIn wsX5_push (wsV RX5 23 RX4 yX4_get wsX4_get) := goodIn_app (goodIn_of _ (by decide +kernel)) ggX5_push_X4_get
set_option maxRecDepth 20000 in
theorem ggX5_push_X4_set : GoodIn wsX5_push wsX4_set := goodIn_r _ [12, 8, 21] (by decide +kernel) (by decide +kernel)
set_option maxRecDepth 20000 in
theorem gX5_push_X4_set : GoodIn wsX5_push (wsV RX5 38 RX4 yX4_set wsX4_set) := goodIn_app (goodIn_of _ (by decide +kernel)) ggX5_push_X4_set
set_option maxRecDepth 20000 in
theorem ggX5_push_X4_add : GoodIn wsX5_push wsX4_add := goodIn_r _ [16, 17, 4, 5, 6, 7, 8, 18, 10, 11, 12, 21] (by decide +kernel) (by decide +kernel)
set_option maxRecDepth 20000 in
theorem gX5_push_X4_add : GoodIn wsX5_push (wsV RX5 41 RX4 yX4_add wsX4_add) := goodIn_app (goodIn_of _ (by decide +kernel)) ggX5_push_X4_add
theorem dX5_push_0 : decode cX5_push 0 = .ok (.aload_n 0, 1) := by decide +kernel
theorem dX5_push_1 : decode cX5_push 1 = .ok (.getfield 20, 3) := by decide +kernel
theorem dX5_push_4 : decode cX5_push 4 = .ok (.iload_n 1, 1) := by decide +kernel
theorem dX5_push_5 : decode cX5_push 5 = .ok (.bipush 8, 2) := by decide +kernel
theorem dX5_push_7 : decode cX5_push 7 = .ok (.imul, 1) := by decide +kernel
theorem dX5_push_8 : decode cX5_push 8 = .ok (.aload_n 0, 1) := by decide +kernel
theorem dX5_push_9 : decode cX5_push 9 = .ok (.getfield 14, 3) := by decide +kernel
theorem dX5_push_12 : decode cX5_push 12 = .ok (.iload_n 1, 1) := by decide +kernel
theorem dX5_push_13 : decode cX5_push 13 = .ok (.invokevirtual 23, 3) := by decide +kernel
theorem dX5_push_16 : decode cX5_push 16 = .ok (.iadd, 1) := by decide +kernel
theorem dX5_push_17 : decode cX5_push 17 = .ok (.iload_n 2, 1) := by decide +kernel
theorem dX5_push_18 : decode cX5_push 18 = .ok (.invokevirtual 38, 3) := by decide +kernel
theorem dX5_push_21 : decode cX5_push 21 = .ok (.aload_n 0, 1) := by decide +kernel
theorem dX5_push_22 : decode cX5_push 22 = .ok (.getfield 14, 3) := by decide +kernel
theorem dX5_push_25 : decode cX5_push 25 = .ok (.iload_n 1, 1) := by decide +kernel
theorem dX5_push_26 : decode cX5_push 26 = .ok (.iconst 1, 1) := by decide +kernel
theorem dX5_push_27 : decode cX5_push 27 = .ok (.invokevirtual 41, 3) := by decide +kernel
theorem dX5_push_30 : decode cX5_push 30 = .ok (.return_, 1) := by decide +kernel
set_option maxRecDepth 20000 in
theorem ggX5_pop_X4_add : GoodIn wsX5_pop wsX4_add := goodIn_r _ [6, 7, 8, 9, 5, 10, 11, 12, 13, 14, 15, 18] (by decide +kernel) (by decide +kernel)
set_option maxRecDepth 20000 in
theorem gX5_pop_X4_add : GoodIn wsX5_pop (wsV RX5 41 RX4 yX4_add wsX4_add) := goodIn_app (goodIn_of _ (by decide +kernel)) ggX5_pop_X4_add
theorem dX5_pop_0 : decode cX5_pop 0 = .ok (.aload_n 0, 1) := by decide +kernel
theorem dX5_pop_1 : decode cX5_pop 1 = .ok (.getfield 14, 3) := by decide +kernel
theorem dX5_pop_4 : decode cX5_pop 4 = .ok (.iload_n 1, 1) := by decide +kernel
theorem dX5_pop_5 : decode cX5_pop 5 = .ok (.iconst (-1), 1) := by decide +kernel
theorem dX5_pop_6 : decode cX5_pop 6 = .ok (.invokevirtual 41, 3) := by decide +kernel
theorem dX5_pop_9 : decode cX5_pop 9 = .ok (.return_, 1) := by decide +kernel
set_option maxRecDepth 20000 in
theorem ggX5_runsWith_X5_backsOf : GoodIn wsX5_runsWith wsX5_backsOf := goodIn_r _ [5, 6, 7, 8, 9, 10, 11, 12, 13, 14, 15, 16] (by decide +kernel) (by decide +kernel)
set_option maxRecDepth 20000 in
theorem gX5_runsWith_X5_backsOf : GoodIn wsX5_runsWith (wsV RX5 44 RX5 yX5_backsOf wsX5_backsOf) := goodIn_app (goodIn_of _ (by decide +kernel)) ggX5_runsWith_X5_backsOf
theorem dX5_runsWith_0 : decode cX5_runsWith 0 = .ok (.iconst 0, 1) := by decide +kernel
theorem dX5_runsWith_1 : decode cX5_runsWith 1 = .ok (.istore_n 2, 1) := by decide +kernel
theorem dX5_runsWith_2 : decode cX5_runsWith 2 = .ok (.iconst 0, 1) := by decide +kernel
theorem dX5_runsWith_3 : decode cX5_runsWith 3 = .ok (.istore_n 3, 1) := by decide +kernel
theorem dX5_runsWith_4 : decode cX5_runsWith 4 = .ok (.iload_n 3, 1) := by decide +kernel
theorem dX5_runsWith_5 : decode cX5_runsWith 5 = .ok (.iconst 4, 1) := by decide +kernel
theorem dX5_runsWith_6 : decode cX5_runsWith 6 = .ok (.if_icmp .ge 21, 3) := by decide +kernel
theorem dX5_runsWith_9 : decode cX5_runsWith 9 = .ok (.aload_n 0, 1) := by decide +kernel
theorem dX5_runsWith_10 : decode cX5_runsWith 10 = .ok (.iload_n 3, 1) := by decide +kernel
theorem dX5_runsWith_11 : decode cX5_runsWith 11 = .ok (.iload_n 1, 1) := by decide +kernel
theorem dX5_runsWith_12 : decode cX5_runsWith 12 = .ok (.invokevirtual 44, 3) := by decide +kernel
theorem dX5_runsWith_15 : decode cX5_runsWith 15 = .ok (.ifCond .le 6, 3) := by decide +kernel
theorem dX5_runsWith_18 : decode cX5_runsWith 18 = .ok (.iinc 2 1, 3) := by decide +kernel
theorem dX5_runsWith_21 : decode cX5_runsWith 21 = .ok (.iinc 3 1, 3) := by decide +kernel
theorem dX5_runsWith_24 : decode cX5_runsWith 24 = .ok (.goto (-20), 3) := by decide +kernel
theorem dX5_runsWith_27 : decode cX5_runsWith 27 = .ok (.iload_n 2, 1) := by decide +kernel
theorem dX5_runsWith_28 : decode cX5_runsWith 28 = .ok (.ireturn, 1) := by decide +kernel
set_option maxRecDepth 20000 in
theorem ggX5_backsTillWithout_X5_backsOf : GoodIn wsX5_backsTillWithout wsX5_backsOf := goodIn_r _ [5, 6, 7, 8, 9, 10, 11, 12, 13, 14, 15, 16] (by decide +kernel) (by decide +kernel)
set_option maxRecDepth 20000 in
theorem gX5_backsTillWithout_X5_backsOf : GoodIn wsX5_backsTillWithout (wsV RX5 44 RX5 yX5_backsOf wsX5_backsOf) := goodIn_app (goodIn_of _ (by decide +kernel)) ggX5_backsTillWithout_X5_backsOf
theorem dX5_backsTillWithout_0 : decode cX5_backsTillWithout 0 = .ok (.iconst 0, 1) := by decide +kernel
theorem dX5_backsTillWithout_1 : decode cX5_backsTillWithout 1 = .ok (.istore_n 2, 1) := by decide +kernel
theorem dX5_backsTillWithout_2 : decode cX5_backsTillWithout 2 = .ok (.iconst 0, 1) := by decide +kernel
theorem dX5_backsTillWithout_3 : decode cX5_backsTillWithout 3 = .ok (.istore_n 3, 1) := by decide +kernel
theorem dX5_backsTillWithout_4 : decode cX5_backsTillWithout 4 = .ok (.iload_n 3, 1) := by decide +kernel
theorem dX5_backsTillWithout_5 : decode cX5_backsTillWithout 5 = .ok (.iconst 4, 1) := by decide +kernel
theorem dX5_backsTillWithout_6 : decode cX5_backsTillWithout 6 = .ok (.if_icmp .ge 18, 3) := by decide +kernel
theorem dX5_backsTillWithout_9 : decode cX5_backsTillWithout 9 = .ok (.iload_n 2, 1) := by decide +kernel
theorem dX5_backsTillWithout_10 : decode cX5_backsTillWithout 10 = .ok (.aload_n 0, 1) := by decide +kernel
theorem dX5_backsTillWithout_11 : decode cX5_backsTillWithout 11 = .ok (.iload_n 3, 1) := by decide +kernel
theorem dX5_backsTillWithout_12 : decode cX5_backsTillWithout 12 = .ok (.iload_n 1, 1) := by decide +kernel
theorem dX5_backsTillWithout_13 : decode cX5_backsTillWithout 13 = .ok (.invokevirtual 44, 3) := by decide +kernel
theorem dX5_backsTillWithout_16 : decode cX5_backsTillWithout 16 = .ok (.iadd, 1) := by decide +kernel
theorem dX5_backsTillWithout_17 : decode cX5_backsTillWithout 17 = .ok (.istore_n 2, 1) := by decide +kernel
theorem dX5_backsTillWithout_18 : decode cX5_backsTillWithout 18 = .ok (.iinc 3 1, 3) := by decide +kernel
theorem dX5_backsTillWithout_21 : decode cX5_backsTillWithout 21 = .ok (.goto (-17), 3) := by decide +kernel
theorem dX5_backsTillWithout_24 : decode cX5_backsTillWithout 24 = .ok (.iload_n 2, 1) := by decide +kernel
theorem dX5_backsTillWithout_25 : decode cX5_backsTillWithout 25 = .ok (.ireturn, 1) := by decide +kernel
set_option maxRecDepth 20000 in
theorem ggX5_backsOf_X4_get : GoodIn wsX5_backsOf wsX4_get := goodIn_r _ [7, 8, 11] (by decide +kernel) (by decide +kernel)
set_option maxRecDepth 20000 in
theorem gX5_backsOf_X4_get : GoodIn wsX5_backsOf (wsV RX5 23 RX4 yX4_get wsX4_get) := goodIn_app (goodIn_of _ (by decide +kernel)) ggX5_backsOf_X4_get
theorem dX5_backsOf_0 : decode cX5_backsOf 0 = .ok (.iconst 0, 1) := by decide +kernel
theorem dX5_backsOf_1 : decode cX5_backsOf 1 = .ok (.istore_n 3, 1) := by decide +kernel
theorem dX5_backsOf_2 : decode cX5_backsOf 2 = .ok (.iload_n 3, 1) := by decide +kernel
theorem dX5_backsOf_3 : decode cX5_backsOf 3 = .ok (.aload_n 0, 1) := by decide +kernel
theorem dX5_backsOf_4 : decode cX5_backsOf 4 = .ok (.getfield 14, 3) := by decide +kernel
theorem dX5_backsOf_7 : decode cX5_backsOf 7 = .ok (.iload_n 1, 1) := by decide +kernel
theorem dX5_backsOf_8 : decode cX5_backsOf 8 = .ok (.invokevirtual 23, 3) := by decide +kernel
theorem dX5_backsOf_11 : decode cX5_backsOf 11 = .ok (.if_icmp .ge 37, 3) := by decide +kernel
theorem dX5_backsOf_14 : decode cX5_backsOf 14 = .ok (.aload_n 0, 1) := by decide +kernel
theorem dX5_backsOf_15 : decode cX5_backsOf 15 = .ok (.getfield 20, 3) := by decide +kernel
theorem dX5_backsOf_18 : decode cX5_backsOf 18 = .ok (.iload_n 1, 1) := by decide +kernel
theorem dX5_backsOf_19 : decode cX5_backsOf 19 = .ok (.bipush 8, 2) := by decide +kernel
theorem dX5_backsOf_21 : decode cX5_backsOf 21 = .ok (.imul, 1) := by decide +kernel
theorem dX5_backsOf_22 : decode cX5_backsOf 22 = .ok (.iload_n 3, 1) := by decide +kernel
theorem dX5_backsOf_23 : decode cX5_backsOf 23 = .ok (.iadd, 1) := by decide +kernel
theorem dX5_backsOf_24 : decode cX5_backsOf 24 = .ok (.invokevirtual 23, 3) := by decide +kernel
theorem dX5_backsOf_27 : decode cX5_backsOf 27 = .ok (.iload_n 2, 1) := by decide +kernel
theorem dX5_backsOf_28 : decode cX5_backsOf 28 = .ok (.if_icmp .ne 14, 3) := by decide +kernel
theorem dX5_backsOf_31 : decode cX5_backsOf 31 = .ok (.aload_n 0, 1) := by decide +kernel
theorem dX5_backsOf_32 : decode cX5_backsOf 32 = .ok (.getfield 14, 3) := by decide +kernel
theorem dX5_backsOf_35 : decode cX5_backsOf 35 = .ok (.iload_n 1, 1) := by decide +kernel
theorem dX5_backsOf_36 : decode cX5_backsOf 36 = .ok (.invokevirtual 23, 3) := by decide +kernel
theorem dX5_backsOf_39 : decode cX5_backsOf 39 = .ok (.iload_n 3, 1) := by decide +kernel
theorem dX5_backsOf_40 : decode cX5_backsOf 40 = .ok (.isub, 1) := by decide +kernel
theorem dX5_backsOf_41 : decode cX5_backsOf 41 = .ok (.ireturn, 1) := by decide +kernel
theorem dX5_backsOf_42 : decode cX5_backsOf 42 = .ok (.iinc 3 1, 3) := by decide +kernel
theorem dX5_backsOf_45 : decode cX5_backsOf 45 = .ok (.goto (-43), 3) := by decide +kernel
theorem dX5_backsOf_48 : decode cX5_backsOf 48 = .ok (.iconst 0, 1) := by decide +kernel
theorem dX5_backsOf_49 : decode cX5_backsOf 49 = .ok (.ireturn, 1) := by decide +kernel
set_option maxRecDepth 20000 in
theorem ggX6_init_X4_init : GoodIn wsX6_init wsX4_init := goodIn_r _ [19, 20, 2, 3, 21, 22, 23] (by decide +kernel) (by decide +kernel)
set_option maxRecDepth 20000 in
theorem gX6_init_X4_init : GoodIn wsX6_init (wsX4_init) := ggX6_init_X4_init
theorem dX6_init_0 : decode cX6_init 0 = .ok (.aload_n 0, 1) := by decide +kernel
theorem dX6_init_1 : decode cX6_init 1 = .ok (.invokespecial 3, 3) := by decide +kernel
theorem dX6_init_4 : decode cX6_init 4 = .ok (.aload_n 0, 1) := by decide +kernel
theorem dX6_init_5 : decode cX6_init 5 = .ok (.new 9, 3) := by decide +kernel
theorem dX6_init_8 : decode cX6_init 8 = .ok (.dup, 1) := by decide +kernel
theorem dX6_init_9 : decode cX6_init 9 = .ok (.bipush 8, 2) := by decide +kernel
theorem dX6_init_11 : decode cX6_init 11 = .ok (.iconst 0, 1) := by decide +kernel
theorem dX6_init_12 : decode cX6_init 12 = .ok (.invokespecial 11, 3) := by decide +kernel
theorem dX6_init_15 : decode cX6_init 15 = .ok (.putfield 14, 3) := by decide +kernel
theorem dX6_init_18 : decode cX6_init 18 = .ok (.aload_n 0, 1) := by decide +kernel
theorem dX6_init_19 : decode cX6_init 19 = .ok (.iconst 0, 1) := by decide +kernel
theorem dX6_init_20 : decode cX6_init 20 = .ok (.putfield 20, 3) := by decide +kernel
theorem dX6_init_23 : decode cX6_init 23 = .ok (.aload_n 0, 1) := by decide +kernel
theorem dX6_init_24 : decode cX6_init 24 = .ok (.new 9, 3) := by decide +kernel
theorem dX6_init_27 : decode cX6_init 27 = .ok (.dup, 1) := by decide +kernel
theorem dX6_init_28 : decode cX6_init 28 = .ok (.bipush 40, 2) := by decide +kernel
theorem dX6_init_30 : decode cX6_init 30 = .ok (.iconst (-1), 1) := by decide +kernel
theorem dX6_init_31 : decode cX6_init 31 = .ok (.invokespecial 11, 3) := by decide +kernel
theorem dX6_init_34 : decode cX6_init 34 = .ok (.putfield 24, 3) := by decide +kernel
theorem dX6_init_37 : decode cX6_init 37 = .ok (.aload_n 0, 1) := by decide +kernel
theorem dX6_init_38 : decode cX6_init 38 = .ok (.new 9, 3) := by decide +kernel
theorem dX6_init_41 : decode cX6_init 41 = .ok (.dup, 1) := by decide +kernel
theorem dX6_init_42 : decode cX6_init 42 = .ok (.bipush 40, 2) := by decide +kernel
theorem dX6_init_44 : decode cX6_init 44 = .ok (.iconst (-1), 1) := by decide +kernel
theorem dX6_init_45 : decode cX6_init 45 = .ok (.invokespecial 11, 3) := by decide +kernel
theorem dX6_init_48 : decode cX6_init 48 = .ok (.putfield 27, 3) := by decide +kernel
theorem dX6_init_51 : decode cX6_init 51 = .ok (.aload_n 0, 1) := by decide +kernel
theorem dX6_init_52 : decode cX6_init 52 = .ok (.new 9, 3) := by decide +kernel
theorem dX6_init_55 : decode cX6_init 55 = .ok (.dup, 1) := by decide +kernel
theorem dX6_init_56 : decode cX6_init 56 = .ok (.bipush 40, 2) := by decide +kernel
theorem dX6_init_58 : decode cX6_init 58 = .ok (.iconst 0, 1) := by decide +kernel
theorem dX6_init_59 : decode cX6_init 59 = .ok (.invokespecial 11, 3) := by decide +kernel
theorem dX6_init_62 : decode cX6_init 62 = .ok (.putfield 30, 3) := by decide +kernel
theorem dX6_init_65 : decode cX6_init 65 = .ok (.aload_n 0, 1) := by decide +kernel
theorem dX6_init_66 : decode cX6_init 66 = .ok (.new 9, 3) := by decide +kernel
theorem dX6_init_69 : decode cX6_init 69 = .ok (.dup, 1) := by decide +kernel
theorem dX6_init_70 : decode cX6_init 70 = .ok (.bipush 40, 2) := by decide +kernel
theorem dX6_init_72 : decode cX6_init 72 = .ok (.iconst 0, 1) := by decide +kernel
theorem dX6_init_73 : decode cX6_init 73 = .ok (.invokespecial 11, 3) := by decide +kernel
theorem dX6_init_76 : decode cX6_init 76 = .ok (.putfield 33, 3) := by decide +kernel
theorem dX6_init_79 : decode cX6_init 79 = .ok (.aload_n 0, 1) := by decide +kernel
theorem dX6_init_80 : decode cX6_init 80 = .ok (.new 9, 3) := by decide +kernel
theorem dX6_init_83 : decode cX6_init 83 = .ok (.dup, 1) := by decide +kernel
theorem dX6_init_84 : decode cX6_init 84 = .ok (.bipush 40, 2) := by decide +kernel
theorem dX6_init_86 : decode cX6_init 86 = .ok (.iconst 0, 1) := by decide +kernel
theorem dX6_init_87 : decode cX6_init 87 = .ok (.invokespecial 11, 3) := by decide +kernel
theorem dX6_init_90 : decode cX6_init 90 = .ok (.putfield 36, 3) := by decide +kernel
theorem dX6_init_93 : decode cX6_init 93 = .ok (.aload_n 0, 1) := by decide +kernel
theorem dX6_init_94 : decode cX6_init 94 = .ok (.new 9, 3) := by decide +kernel
theorem dX6_init_97 : decode cX6_init 97 = .ok (.dup, 1) := by decide +kernel
theorem dX6_init_98 : decode cX6_init 98 = .ok (.bipush 120, 2) := by decide +kernel
theorem dX6_init_100 : decode cX6_init 100 = .ok (.iconst (-1), 1) := by decide +kernel
theorem dX6_init_101 : decode cX6_init 101 = .ok (.invokespecial 11, 3) := by decide +kernel
theorem dX6_init_104 : decode cX6_init 104 = .ok (.putfield 39, 3) := by decide +kernel
theorem dX6_init_107 : decode cX6_init 107 = .ok (.aload_n 0, 1) := by decide +kernel
theorem dX6_init_108 : decode cX6_init 108 = .ok (.new 9, 3) := by decide +kernel
theorem dX6_init_111 : decode cX6_init 111 = .ok (.dup, 1) := by decide +kernel
theorem dX6_init_112 : decode cX6_init 112 = .ok (.bipush 120, 2) := by decide +kernel
theorem dX6_init_114 : decode cX6_init 114 = .ok (.iconst 0, 1) := by decide +kernel
theorem dX6_init_115 : decode cX6_init 115 = .ok (.invokespecial 11, 3) := by decide +kernel
theorem dX6_init_118 : decode cX6_init 118 = .ok (.putfield 42, 3) := by decide +kernel
theorem dX6_init_121 : decode cX6_init 121 = .ok (.aload_n 0, 1) := by decide +kernel
theorem dX6_init_122 : decode cX6_init 122 = .ok (.iconst 0, 1) := by decide +kernel
theorem dX6_init_123 : decode cX6_init 123 = .ok (.putfield 45, 3) := by decide +kernel
theorem dX6_init_126 : decode cX6_init 126 = .ok (.return_, 1) := by decide +kernel
set_option maxRecDepth 20000 in
theorem ggX6_addObject_X4_set : GoodIn wsX6_addObject wsX4_set := goodIn_r _ [7, 8, 19] (by decide +kernel) (by decide +kernel)
set_option maxRecDepth 20000 in
theorem gX6_addObject_X4_set : GoodIn wsX6_addObject (wsV RX6 48 RX4 yX4_set wsX4_set) := goodIn_app (goodIn_of _ (by decide +kernel)) ggX6_addObject_X4_set
theorem dX6_addObject_0 : decode cX6_addObject 0 = .ok (.aload_n 0, 1) := by decide +kernel
theorem dX6_addObject_1 : decode cX6_addObject 1 = .ok (.getfield 14, 3) := by decide +kernel
theorem dX6_addObject_4 : decode cX6_addObject 4 = .ok (.aload_n 0, 1) := by decide +kernel
theorem dX6_addObject_5 : decode cX6_addObject 5 = .ok (.getfield 20, 3) := by decide +kernel
theorem dX6_addObject_8 : decode cX6_addObject 8 = .ok (.iload_n 1, 1) := by decide +kernel
theorem dX6_addObject_9 : decode cX6_addObject 9 = .ok (.ifCond .eq 7, 3) := by decide +kernel
theorem dX6_addObject_12 : decode cX6_addObject 12 = .ok (.iconst 1, 1) := by decide +kernel
theorem dX6_addObject_13 : decode cX6_addObject 13 = .ok (.goto 4, 3) := by decide +kernel
theorem dX6_addObject_16 : decode cX6_addObject 16 = .ok (.iconst 0, 1) := by decide +kernel
theorem dX6_addObject_17 : decode cX6_addObject 17 = .ok (.invokevirtual 48, 3) := by decide +kernel
theorem dX6_addObject_20 : decode cX6_addObject 20 = .ok (.aload_n 0, 1) := by decide +kernel
theorem dX6_addObject_21 : decode cX6_addObject 21 = .ok (.dup, 1) := by decide +kernel
theorem dX6_addObject_22 : decode cX6_addObject 22 = .ok (.getfield 20, 3) := by decide +kernel
theorem dX6_addObject_25 : decode cX6_addObject 25 = .ok (.iconst 1, 1) := by decide +kernel
theorem dX6_addObject_26 : decode cX6_addObject 26 = .ok (.iadd, 1) := by decide +kernel
theorem dX6_addObject_27 : decode cX6_addObject 27 = .ok (.putfield 20, 3) := by decide +kernel
theorem dX6_addObject_30 : decode cX6_addObject 30 = .ok (.aload_n 0, 1) := by decide +kernel
theorem dX6_addObject_31 : decode cX6_addObject 31 = .ok (.getfield 20, 3) := by decide +kernel
theorem dX6_addObject_34 : decode cX6_addObject 34 = .ok (.iconst 1, 1) := by decide +kernel
theorem dX6_addObject_35 : decode cX6_addObject 35 = .ok (.isub, 1) := by decide +kernel
theorem dX6_addObject_36 : decode cX6_addObject 36 = .ok (.ireturn, 1) := by decide +kernel
set_option maxRecDepth 20000 in
theorem ggX6_addPiece_X4_set : GoodIn wsX6_addPiece wsX4_set := goodIn_r _ [10, 11, 22] (by decide +kernel) (by decide +kernel)
set_option maxRecDepth 20000 in
theorem gX6_addPiece_X4_set : GoodIn wsX6_addPiece (wsV RX6 48 RX4 yX4_set wsX4_set) := goodIn_app (goodIn_of _ (by decide +kernel)) ggX6_addPiece_X4_set
theorem dX6_addPiece_0 : decode cX6_addPiece 0 = .ok (.aload_n 0, 1) := by decide +kernel
theorem dX6_addPiece_1 : decode cX6_addPiece 1 = .ok (.getfield 24, 3) := by decide +kernel
theorem dX6_addPiece_4 : decode cX6_addPiece 4 = .ok (.aload_n 0, 1) := by decide +kernel
theorem dX6_addPiece_5 : decode cX6_addPiece 5 = .ok (.getfield 45, 3) := by decide +kernel
theorem dX6_addPiece_8 : decode cX6_addPiece 8 = .ok (.iload_n 1, 1) := by decide +kernel
theorem dX6_addPiece_9 : decode cX6_addPiece 9 = .ok (.invokevirtual 48, 3) := by decide +kernel
theorem dX6_addPiece_12 : decode cX6_addPiece 12 = .ok (.aload_n 0, 1) := by decide +kernel
theorem dX6_addPiece_13 : decode cX6_addPiece 13 = .ok (.getfield 27, 3) := by decide +kernel
theorem dX6_addPiece_16 : decode cX6_addPiece 16 = .ok (.aload_n 0, 1) := by decide +kernel
theorem dX6_addPiece_17 : decode cX6_addPiece 17 = .ok (.getfield 45, 3) := by decide +kernel
theorem dX6_addPiece_20 : decode cX6_addPiece 20 = .ok (.iload_n 2, 1) := by decide +kernel
theorem dX6_addPiece_21 : decode cX6_addPiece 21 = .ok (.invokevirtual 48, 3) := by decide +kernel
theorem dX6_addPiece_24 : decode cX6_addPiece 24 = .ok (.aload_n 0, 1) := by decide +kernel
theorem dX6_addPiece_25 : decode cX6_addPiece 25 = .ok (.getfield 30, 3) := by decide +kernel
theorem dX6_addPiece_28 : decode cX6_addPiece 28 = .ok (.aload_n 0, 1) := by decide +kernel
theorem dX6_addPiece_29 : decode cX6_addPiece 29 = .ok (.getfield 45, 3) := by decide +kernel
theorem dX6_addPiece_32 : decode cX6_addPiece 32 = .ok (.iload_n 3, 1) := by decide +kernel
theorem dX6_addPiece_33 : decode cX6_addPiece 33 = .ok (.invokevirtual 48, 3) := by decide +kernel
theorem dX6_addPiece_36 : decode cX6_addPiece 36 = .ok (.aload_n 0, 1) := by decide +kernel
theorem dX6_addPiece_37 : decode cX6_addPiece 37 = .ok (.getfield 33, 3) := by decide +kernel
theorem dX6_addPiece_40 : decode cX6_addPiece 40 = .ok (.aload_n 0, 1) := by decide +kernel
theorem dX6_addPiece_41 : decode cX6_addPiece 41 = .ok (.getfield 45, 3) := by decide +kernel
theorem dX6_addPiece_44 : decode cX6_addPiece 44 = .ok (.iload 4, 2) := by decide +kernel
theorem dX6_addPiece_46 : decode cX6_addPiece 46 = .ok (.ifCond .eq 7, 3) := by decide +kernel
theorem dX6_addPiece_49 : decode cX6_addPiece 49 = .ok (.iconst 1, 1) := by decide +kernel
theorem dX6_addPiece_50 : decode cX6_addPiece 50 = .ok (.goto 4, 3) := by decide +kernel
theorem dX6_addPiece_53 : decode cX6_addPiece 53 = .ok (.iconst 0, 1) := by decide +kernel
theorem dX6_addPiece_54 : decode cX6_addPiece 54 = .ok (.invokevirtual 48, 3) := by decide +kernel
theorem dX6_addPiece_57 : decode cX6_addPiece 57 = .ok (.aload_n 0, 1) := by decide +kernel
theorem dX6_addPiece_58 : decode cX6_addPiece 58 = .ok (.dup, 1) := by decide +kernel
theorem dX6_addPiece_59 : decode cX6_addPiece 59 = .ok (.getfield 45, 3) := by decide +kernel
theorem dX6_addPiece_62 : decode cX6_addPiece 62 = .ok (.iconst 1, 1) := by decide +kernel
theorem dX6_addPiece_63 : decode cX6_addPiece 63 = .ok (.iadd, 1) := by decide +kernel
theorem dX6_addPiece_64 : decode cX6_addPiece 64 = .ok (.putfield 45, 3) := by decide +kernel
theorem dX6_addPiece_67 : decode cX6_addPiece 67 = .ok (.aload_n 0, 1) := by decide +kernel
theorem dX6_addPiece_68 : decode cX6_addPiece 68 = .ok (.getfield 45, 3) := by decide +kernel
theorem dX6_addPiece_71 : decode cX6_addPiece 71 = .ok (.iconst 1, 1) := by decide +kernel
theorem dX6_addPiece_72 : decode cX6_addPiece 72 = .ok (.isub, 1) := by decide +kernel
theorem dX6_addPiece_73 : decode cX6_addPiece 73 = .ok (.ireturn, 1) := by decide +kernel
set_option maxRecDepth 20000 in
theorem ggX6_addReference_X4_get : GoodIn wsX6_addReference wsX4_get := goodIn_r _ [8, 9, 30] (by decide +kernel) (by decide +kernel)
set_option maxRecDepth 20000 in
theorem gX6_addReference_X4_get : GoodIn wsX6_addReference (wsV RX6 51 RX4 yX4_get wsX4_get) := goodIn_app (goodIn_of _ (by decide +kernel)) ggX6_addReference_X4_get
set_option maxRecDepth 20000 in
theorem ggX6_addReference_X4_set : GoodIn wsX6_addReference wsX4_set := goodIn_r _ [13, 9, 30] (by decide +kernel) (by decide +kernel)
set_option maxRecDepth 20000 in
theorem gX6_addReference_X4_set : GoodIn wsX6_addReference (wsV RX6 48 RX4 yX4_set wsX4_set) := goodIn_app (goodIn_of _ (by decide +kernel)) ggX6_addReference_X4_set
set_option maxRecDepth 20000 in
theorem ggX6_addReference_X4_add : GoodIn wsX6_addReference wsX4_add := goodIn_r _ [17, 18, 5, 6, 7, 8, 9, 19, 11, 12, 13, 30] (by decide +kernel) (by decide +kernel)
set_option maxRecDepth 20000 in
theorem gX6_addReference_X4_add : GoodIn wsX6_addReference (wsV RX6 55 RX4 yX4_add wsX4_add) := goodIn_app (goodIn_of _ (by decide +kernel)) ggX6_addReference_X4_add
theorem dX6_addReference_0 : decode cX6_addReference 0 = .ok (.iload_n 1, 1) := by decide +kernel
theorem dX6_addReference_1 : decode cX6_addReference 1 = .ok (.iconst 3, 1) := by decide +kernel
theorem dX6_addReference_2 : decode cX6_addReference 2 = .ok (.imul, 1) := by decide +kernel
theorem dX6_addReference_3 : decode cX6_addReference 3 = .ok (.aload_n 0, 1) := by decide +kernel
theorem dX6_addReference_4 : decode cX6_addReference 4 = .ok (.getfield 36, 3) := by decide +kernel
theorem dX6_addReference_7 : decode cX6_addReference 7 = .ok (.iload_n 1, 1) := by decide +kernel
theorem dX6_addReference_8 : decode cX6_addReference 8 = .ok (.invokevirtual 51, 3) := by decide +kernel
theorem dX6_addReference_11 : decode cX6_addReference 11 = .ok (.iadd, 1) := by decide +kernel
theorem dX6_addReference_12 : decode cX6_addReference 12 = .ok (.istore 4, 2) := by decide +kernel
theorem dX6_addReference_14 : decode cX6_addReference 14 = .ok (.aload_n 0, 1) := by decide +kernel
theorem dX6_addReference_15 : decode cX6_addReference 15 = .ok (.getfield 39, 3) := by decide +kernel
theorem dX6_addReference_18 : decode cX6_addReference 18 = .ok (.iload 4, 2) := by decide +kernel
theorem dX6_addReference_20 : decode cX6_addReference 20 = .ok (.iload_n 2, 1) := by decide +kernel
theorem dX6_addReference_21 : decode cX6_addReference 21 = .ok (.invokevirtual 48, 3) := by decide +kernel
theorem dX6_addReference_24 : decode cX6_addReference 24 = .ok (.aload_n 0, 1) := by decide +kernel
theorem dX6_addReference_25 : decode cX6_addReference 25 = .ok (.getfield 42, 3) := by decide +kernel
theorem dX6_addReference_28 : decode cX6_addReference 28 = .ok (.iload 4, 2) := by decide +kernel
theorem dX6_addReference_30 : decode cX6_addReference 30 = .ok (.iload_n 3, 1) := by decide +kernel
theorem dX6_addReference_31 : decode cX6_addReference 31 = .ok (.ifCond .eq 7, 3) := by decide +kernel
theorem dX6_addReference_34 : decode cX6_addReference 34 = .ok (.iconst 1, 1) := by decide +kernel
theorem dX6_addReference_35 : decode cX6_addReference 35 = .ok (.goto 4, 3) := by decide +kernel
theorem dX6_addReference_38 : decode cX6_addReference 38 = .ok (.iconst 0, 1) := by decide +kernel
theorem dX6_addReference_39 : decode cX6_addReference 39 = .ok (.invokevirtual 48, 3) := by decide +kernel
theorem dX6_addReference_42 : decode cX6_addReference 42 = .ok (.aload_n 0, 1) := by decide +kernel
theorem dX6_addReference_43 : decode cX6_addReference 43 = .ok (.getfield 36, 3) := by decide +kernel
theorem dX6_addReference_46 : decode cX6_addReference 46 = .ok (.iload_n 1, 1) := by decide +kernel
theorem dX6_addReference_47 : decode cX6_addReference 47 = .ok (.iconst 1, 1) := by decide +kernel
theorem dX6_addReference_48 : decode cX6_addReference 48 = .ok (.invokevirtual 55, 3) := by decide +kernel
theorem dX6_addReference_51 : decode cX6_addReference 51 = .ok (.aload_n 0, 1) := by decide +kernel
theorem dX6_addReference_52 : decode cX6_addReference 52 = .ok (.getfield 36, 3) := by decide +kernel
theorem dX6_addReference_55 : decode cX6_addReference 55 = .ok (.iload_n 1, 1) := by decide +kernel
theorem dX6_addReference_56 : decode cX6_addReference 56 = .ok (.invokevirtual 51, 3) := by decide +kernel
theorem dX6_addReference_59 : decode cX6_addReference 59 = .ok (.ireturn, 1) := by decide +kernel
set_option maxRecDepth 20000 in
theorem ggX6_isOfPatch_X4_get : GoodIn wsX6_isOfPatch wsX4_get := goodIn_r _ [6, 7, 18] (by decide +kernel) (by decide +kernel)
set_option maxRecDepth 20000 in
theorem gX6_isOfPatch_X4_get : GoodIn wsX6_isOfPatch (wsV RX6 51 RX4 yX4_get wsX4_get) := goodIn_app (goodIn_of _ (by decide +kernel)) ggX6_isOfPatch_X4_get
theorem dX6_isOfPatch_0 : decode cX6_isOfPatch 0 = .ok (.aload_n 0, 1) := by decide +kernel
theorem dX6_isOfPatch_1 : decode cX6_isOfPatch 1 = .ok (.getfield 24, 3) := by decide +kernel
theorem dX6_isOfPatch_4 : decode cX6_isOfPatch 4 = .ok (.iload_n 1, 1) := by decide +kernel
theorem dX6_isOfPatch_5 : decode cX6_isOfPatch 5 = .ok (.invokevirtual 51, 3) := by decide +kernel
theorem dX6_isOfPatch_8 : decode cX6_isOfPatch 8 = .ok (.iconst (-1), 1) := by decide +kernel
theorem dX6_isOfPatch_9 : decode cX6_isOfPatch 9 = .ok (.if_icmp .ne 7, 3) := by decide +kernel
theorem dX6_isOfPatch_12 : decode cX6_isOfPatch 12 = .ok (.iconst 1, 1) := by decide +kernel
theorem dX6_isOfPatch_13 : decode cX6_isOfPatch 13 = .ok (.goto 4, 3) := by decide +kernel
theorem dX6_isOfPatch_16 : decode cX6_isOfPatch 16 = .ok (.iconst 0, 1) := by decide +kernel
theorem dX6_isOfPatch_17 : decode cX6_isOfPatch 17 = .ok (.ireturn, 1) := by decide +kernel
set_option maxRecDepth 20000 in
theorem ggX6_target_X4_get : GoodIn wsX6_target wsX4_get := goodIn_r _ [6, 7, 18] (by decide +kernel) (by decide +kernel)
set_option maxRecDepth 20000 in
theorem gX6_target_X4_get : GoodIn wsX6_target (wsV RX6 51 RX4 yX4_get wsX4_get) := goodIn_app (goodIn_of _ (by decide +kernel)) ggX6_target_X4_get
theorem dX6_target_0 : decode cX6_target 0 = .ok (.aload_n 0, 1) := by decide +kernel
theorem dX6_target_1 : decode cX6_target 1 = .ok (.getfield 39, 3) := by decide +kernel
theorem dX6_target_4 : decode cX6_target 4 = .ok (.iload_n 1, 1) := by decide +kernel
theorem dX6_target_5 : decode cX6_target 5 = .ok (.iconst 3, 1) := by decide +kernel
theorem dX6_target_6 : decode cX6_target 6 = .ok (.imul, 1) := by decide +kernel
theorem dX6_target_7 : decode cX6_target 7 = .ok (.iload_n 2, 1) := by decide +kernel
theorem dX6_target_8 : decode cX6_target 8 = .ok (.iadd, 1) := by decide +kernel
theorem dX6_target_9 : decode cX6_target 9 = .ok (.invokevirtual 51, 3) := by decide +kernel
theorem dX6_target_12 : decode cX6_target 12 = .ok (.ireturn, 1) := by decide +kernel
set_option maxRecDepth 20000 in
theorem ggX6_isNear_X4_get : GoodIn wsX6_isNear wsX4_get := goodIn_r _ [6, 7, 18] (by decide +kernel) (by decide +kernel)
set_option maxRecDepth 20000 in
theorem gX6_isNear_X4_get : GoodIn wsX6_isNear (wsV RX6 51 RX4 yX4_get wsX4_get) := goodIn_app (goodIn_of _ (by decide +kernel)) ggX6_isNear_X4_get
theorem dX6_isNear_0 : decode cX6_isNear 0 = .ok (.aload_n 0, 1) := by decide +kernel
theorem dX6_isNear_1 : decode cX6_isNear 1 = .ok (.getfield 42, 3) := by decide +kernel
theorem dX6_isNear_4 : decode cX6_isNear 4 = .ok (.iload_n 1, 1) := by decide +kernel
theorem dX6_isNear_5 : decode cX6_isNear 5 = .ok (.iconst 3, 1) := by decide +kernel
theorem dX6_isNear_6 : decode cX6_isNear 6 = .ok (.imul, 1) := by decide +kernel
theorem dX6_isNear_7 : decode cX6_isNear 7 = .ok (.iload_n 2, 1) := by decide +kernel
theorem dX6_isNear_8 : decode cX6_isNear 8 = .ok (.iadd, 1) := by decide +kernel
theorem dX6_isNear_9 : decode cX6_isNear 9 = .ok (.invokevirtual 51, 3) := by decide +kernel
theorem dX6_isNear_12 : decode cX6_isNear 12 = .ok (.iconst 1, 1) := by decide +kernel
theorem dX6_isNear_13 : decode cX6_isNear 13 = .ok (.if_icmp .ne 7, 3) := by decide +kernel
theorem dX6_isNear_16 : decode cX6_isNear 16 = .ok (.iconst 1, 1) := by decide +kernel
theorem dX6_isNear_17 : decode cX6_isNear 17 = .ok (.goto 4, 3) := by decide +kernel
theorem dX6_isNear_20 : decode cX6_isNear 20 = .ok (.iconst 0, 1) := by decide +kernel
theorem dX6_isNear_21 : decode cX6_isNear 21 = .ok (.ireturn, 1) := by decide +kernel
set_option maxRecDepth 20000 in
theorem ggX6_symbolBits_X4_get : GoodIn wsX6_symbolBits wsX4_get := goodIn_r _ [8, 9, 20] (by decide +kernel) (by decide +kernel)
set_option maxRecDepth 20000 in
theorem gX6_symbolBits_X4_get : GoodIn wsX6_symbolBits (wsV RX6 51 RX4 yX4_get wsX4_get) := goodIn_app (goodIn_of _ (by decide +kernel)) ggX6_symbolBits_X4_get
theorem dX6_symbolBits_0 : decode cX6_symbolBits 0 = .ok (.iconst 0, 1) := by decide +kernel
theorem dX6_symbolBits_1 : decode cX6_symbolBits 1 = .ok (.istore_n 2, 1) := by decide +kernel
theorem dX6_symbolBits_2 : decode cX6_symbolBits 2 = .ok (.iconst 0, 1) := by decide +kernel
theorem dX6_symbolBits_3 : decode cX6_symbolBits 3 = .ok (.istore_n 3, 1) := by decide +kernel
theorem dX6_symbolBits_4 : decode cX6_symbolBits 4 = .ok (.iload_n 3, 1) := by decide +kernel
theorem dX6_symbolBits_5 : decode cX6_symbolBits 5 = .ok (.aload_n 0, 1) := by decide +kernel
theorem dX6_symbolBits_6 : decode cX6_symbolBits 6 = .ok (.getfield 45, 3) := by decide +kernel
theorem dX6_symbolBits_9 : decode cX6_symbolBits 9 = .ok (.if_icmp .ge 34, 3) := by decide +kernel
theorem dX6_symbolBits_12 : decode cX6_symbolBits 12 = .ok (.aload_n 0, 1) := by decide +kernel
theorem dX6_symbolBits_13 : decode cX6_symbolBits 13 = .ok (.getfield 24, 3) := by decide +kernel
theorem dX6_symbolBits_16 : decode cX6_symbolBits 16 = .ok (.iload_n 3, 1) := by decide +kernel
theorem dX6_symbolBits_17 : decode cX6_symbolBits 17 = .ok (.invokevirtual 51, 3) := by decide +kernel
theorem dX6_symbolBits_20 : decode cX6_symbolBits 20 = .ok (.iload_n 1, 1) := by decide +kernel
theorem dX6_symbolBits_21 : decode cX6_symbolBits 21 = .ok (.if_icmp .ne 16, 3) := by decide +kernel
theorem dX6_symbolBits_24 : decode cX6_symbolBits 24 = .ok (.iload_n 2, 1) := by decide +kernel
theorem dX6_symbolBits_25 : decode cX6_symbolBits 25 = .ok (.iconst 1, 1) := by decide +kernel
theorem dX6_symbolBits_26 : decode cX6_symbolBits 26 = .ok (.aload_n 0, 1) := by decide +kernel
theorem dX6_symbolBits_27 : decode cX6_symbolBits 27 = .ok (.getfield 27, 3) := by decide +kernel
theorem dX6_symbolBits_30 : decode cX6_symbolBits 30 = .ok (.iload_n 3, 1) := by decide +kernel
theorem dX6_symbolBits_31 : decode cX6_symbolBits 31 = .ok (.invokevirtual 51, 3) := by decide +kernel
theorem dX6_symbolBits_34 : decode cX6_symbolBits 34 = .ok (.ishl, 1) := by decide +kernel
theorem dX6_symbolBits_35 : decode cX6_symbolBits 35 = .ok (.ior, 1) := by decide +kernel
theorem dX6_symbolBits_36 : decode cX6_symbolBits 36 = .ok (.istore_n 2, 1) := by decide +kernel
theorem dX6_symbolBits_37 : decode cX6_symbolBits 37 = .ok (.iinc 3 1, 3) := by decide +kernel
theorem dX6_symbolBits_40 : decode cX6_symbolBits 40 = .ok (.goto (-36), 3) := by decide +kernel
theorem dX6_symbolBits_43 : decode cX6_symbolBits 43 = .ok (.iload_n 2, 1) := by decide +kernel
theorem dX6_symbolBits_44 : decode cX6_symbolBits 44 = .ok (.ireturn, 1) := by decide +kernel
set_option maxRecDepth 20000 in
theorem ggX6_targetBits_X4_get : GoodIn wsX6_targetBits wsX4_get := goodIn_r _ [8, 9, 26] (by decide +kernel) (by decide +kernel)
set_option maxRecDepth 20000 in
theorem gX6_targetBits_X4_get : GoodIn wsX6_targetBits (wsV RX6 51 RX4 yX4_get wsX4_get) := goodIn_app (goodIn_of _ (by decide +kernel)) ggX6_targetBits_X4_get
set_option maxRecDepth 20000 in
theorem ggX6_targetBits_X6_target : GoodIn wsX6_targetBits wsX6_target := goodIn_r _ [14, 15, 4, 5, 6, 7, 8, 9, 16, 17, 18, 19, 20, 21, 22, 23, 24, 25, 26] (by decide +kernel) (by decide +kernel)
set_option maxRecDepth 20000 in
theorem gX6_targetBits_X6_target : GoodIn wsX6_targetBits (wsV RX6 58 RX6 yX6_target wsX6_target) := goodIn_app (goodIn_of _ (by decide +kernel)) ggX6_targetBits_X6_target
theorem dX6_targetBits_0 : decode cX6_targetBits 0 = .ok (.iconst 0, 1) := by decide +kernel
theorem dX6_targetBits_1 : decode cX6_targetBits 1 = .ok (.istore_n 2, 1) := by decide +kernel
theorem dX6_targetBits_2 : decode cX6_targetBits 2 = .ok (.iconst 0, 1) := by decide +kernel
theorem dX6_targetBits_3 : decode cX6_targetBits 3 = .ok (.istore_n 3, 1) := by decide +kernel
theorem dX6_targetBits_4 : decode cX6_targetBits 4 = .ok (.iload_n 3, 1) := by decide +kernel
theorem dX6_targetBits_5 : decode cX6_targetBits 5 = .ok (.aload_n 0, 1) := by decide +kernel
theorem dX6_targetBits_6 : decode cX6_targetBits 6 = .ok (.getfield 45, 3) := by decide +kernel
theorem dX6_targetBits_9 : decode cX6_targetBits 9 = .ok (.if_icmp .ge 63, 3) := by decide +kernel
theorem dX6_targetBits_12 : decode cX6_targetBits 12 = .ok (.aload_n 0, 1) := by decide +kernel
theorem dX6_targetBits_13 : decode cX6_targetBits 13 = .ok (.getfield 24, 3) := by decide +kernel
theorem dX6_targetBits_16 : decode cX6_targetBits 16 = .ok (.iload_n 3, 1) := by decide +kernel
theorem dX6_targetBits_17 : decode cX6_targetBits 17 = .ok (.invokevirtual 51, 3) := by decide +kernel
theorem dX6_targetBits_20 : decode cX6_targetBits 20 = .ok (.iload_n 1, 1) := by decide +kernel
theorem dX6_targetBits_21 : decode cX6_targetBits 21 = .ok (.if_icmp .ne 14, 3) := by decide +kernel
theorem dX6_targetBits_24 : decode cX6_targetBits 24 = .ok (.aload_n 0, 1) := by decide +kernel
theorem dX6_targetBits_25 : decode cX6_targetBits 25 = .ok (.getfield 36, 3) := by decide +kernel
theorem dX6_targetBits_28 : decode cX6_targetBits 28 = .ok (.iload_n 3, 1) := by decide +kernel
theorem dX6_targetBits_29 : decode cX6_targetBits 29 = .ok (.invokevirtual 51, 3) := by decide +kernel
theorem dX6_targetBits_32 : decode cX6_targetBits 32 = .ok (.goto 4, 3) := by decide +kernel
theorem dX6_targetBits_35 : decode cX6_targetBits 35 = .ok (.iconst 0, 1) := by decide +kernel
theorem dX6_targetBits_36 : decode cX6_targetBits 36 = .ok (.istore 4, 2) := by decide +kernel
theorem dX6_targetBits_38 : decode cX6_targetBits 38 = .ok (.iconst 0, 1) := by decide +kernel
theorem dX6_targetBits_39 : decode cX6_targetBits 39 = .ok (.istore 5, 2) := by decide +kernel
theorem dX6_targetBits_41 : decode cX6_targetBits 41 = .ok (.iload 5, 2) := by decide +kernel
theorem dX6_targetBits_43 : decode cX6_targetBits 43 = .ok (.iload 4, 2) := by decide +kernel
theorem dX6_targetBits_45 : decode cX6_targetBits 45 = .ok (.if_icmp .ge 21, 3) := by decide +kernel
theorem dX6_targetBits_48 : decode cX6_targetBits 48 = .ok (.iload_n 2, 1) := by decide +kernel
theorem dX6_targetBits_49 : decode cX6_targetBits 49 = .ok (.iconst 1, 1) := by decide +kernel
theorem dX6_targetBits_50 : decode cX6_targetBits 50 = .ok (.aload_n 0, 1) := by decide +kernel
theorem dX6_targetBits_51 : decode cX6_targetBits 51 = .ok (.iload_n 3, 1) := by decide +kernel
theorem dX6_targetBits_52 : decode cX6_targetBits 52 = .ok (.iload 5, 2) := by decide +kernel
theorem dX6_targetBits_54 : decode cX6_targetBits 54 = .ok (.invokevirtual 58, 3) := by decide +kernel
theorem dX6_targetBits_57 : decode cX6_targetBits 57 = .ok (.ishl, 1) := by decide +kernel
theorem dX6_targetBits_58 : decode cX6_targetBits 58 = .ok (.ior, 1) := by decide +kernel
theorem dX6_targetBits_59 : decode cX6_targetBits 59 = .ok (.istore_n 2, 1) := by decide +kernel
theorem dX6_targetBits_60 : decode cX6_targetBits 60 = .ok (.iinc 5 1, 3) := by decide +kernel
theorem dX6_targetBits_63 : decode cX6_targetBits 63 = .ok (.goto (-22), 3) := by decide +kernel
theorem dX6_targetBits_66 : decode cX6_targetBits 66 = .ok (.iinc 3 1, 3) := by decide +kernel
theorem dX6_targetBits_69 : decode cX6_targetBits 69 = .ok (.goto (-65), 3) := by decide +kernel
theorem dX6_targetBits_72 : decode cX6_targetBits 72 = .ok (.iload_n 2, 1) := by decide +kernel
theorem dX6_targetBits_73 : decode cX6_targetBits 73 = .ok (.ireturn, 1) := by decide +kernel
set_option maxRecDepth 20000 in
theorem ggX7_init_X6_init : GoodIn wsX7_init wsX6_init := goodIn_r _ [31, 32, 2, 3, 33, 26, 27, 34, 35, 36, 37, 38, 39, 40, 41, 42, 43, 44, 45, 46, 47, 48, 49, 146, 107, 108, 109, 110, 111, 112, 113, 114, 115, 116] (by decide +kernel) (by decide +kernel)
set_option maxRecDepth 20000 in
theorem gX7_init_X6_init_n11 : GoodIn wsX7_init (wsX6_init) := ggX7_init_X6_init
set_option maxRecDepth 20000 in
theorem ggX7_init_X2_init : GoodIn wsX7_init wsX2_init := goodIn_r _ [51, 52, 2, 3, 53, 54, 55, 56, 57, 26, 27, 58, 59, 60, 61, 62, 63, 64, 65, 66, 67, 68, 69, 70, 71, 72, 73, 74, 75, 76, 77, 45, 46, 47, 48, 49, 78, 147, 148, 149, 150, 151, 152, 125, 126, 127, 128, 129, 130, 131, 132, 133, 134, 146] (by decide +kernel) (by decide +kernel)
set_option maxRecDepth 20000 in
theorem gX7_init_X2_init_n18 : GoodIn wsX7_init (wsX2_init) := ggX7_init_X2_init
set_option maxRecDepth 20000 in
theorem ggX7_init_X0_init : GoodIn wsX7_init wsX0_init := goodIn_r _ [80, 81, 2, 3, 82, 83, 54, 55, 84, 85, 26, 27, 86, 87, 88, 67, 68, 69, 70, 71, 72, 73, 74, 75, 76, 77, 45, 46, 47, 48, 49, 89, 135, 136, 137, 138, 139, 147, 148, 149, 150, 151, 152, 146] (by decide +kernel) (by decide +kernel)
set_option maxRecDepth 20000 in
theorem gX7_init_X0_init_n25 : GoodIn wsX7_init (wsX0_init) := ggX7_init_X0_init
set_option maxRecDepth 20000 in
theorem ggX7_init_X5_init : GoodIn wsX7_init wsX5_init := goodIn_r _ [91, 92, 2, 3, 93, 26, 27, 94, 95, 96, 45, 46, 47, 48, 49, 146, 140, 141] (by decide +kernel) (by decide +kernel)
set_option maxRecDepth 20000 in
theorem gX7_init_X5_init_n35 : GoodIn wsX7_init (wsX5_init) := ggX7_init_X5_init
set_option maxRecDepth 20000 in
theorem ggX7_init_X3_init : GoodIn wsX7_init wsX3_init := goodIn_r _ [98, 99, 2, 3, 100, 26, 27, 101, 102, 103, 104, 105, 45, 46, 47, 48, 49, 146, 142, 143, 144, 145] (by decide +kernel) (by decide +kernel)
set_option maxRecDepth 20000 in
theorem gX7_init_X3_init_n42 : GoodIn wsX7_init (wsX3_init) := ggX7_init_X3_init
set_option maxRecDepth 20000 in
theorem ggX7_init_X4_init : GoodIn wsX7_init wsX4_init := goodIn_r _ [46, 47, 2, 3, 48, 49, 146] (by decide +kernel) (by decide +kernel)
set_option maxRecDepth 20000 in
theorem gX7_init_X4_init : GoodIn wsX7_init (wsX4_init) := ggX7_init_X4_init
theorem dX7_init_0 : decode cX7_init 0 = .ok (.aload_n 0, 1) := by decide +kernel
theorem dX7_init_1 : decode cX7_init 1 = .ok (.invokespecial 3, 3) := by decide +kernel
theorem dX7_init_4 : decode cX7_init 4 = .ok (.aload_n 0, 1) := by decide +kernel
theorem dX7_init_5 : decode cX7_init 5 = .ok (.new 9, 3) := by decide +kernel
theorem dX7_init_8 : decode cX7_init 8 = .ok (.dup, 1) := by decide +kernel
theorem dX7_init_9 : decode cX7_init 9 = .ok (.invokespecial 11, 3) := by decide +kernel
theorem dX7_init_12 : decode cX7_init 12 = .ok (.putfield 12, 3) := by decide +kernel
theorem dX7_init_15 : decode cX7_init 15 = .ok (.aload_n 0, 1) := by decide +kernel
theorem dX7_init_16 : decode cX7_init 16 = .ok (.new 16, 3) := by decide +kernel
theorem dX7_init_19 : decode cX7_init 19 = .ok (.dup, 1) := by decide +kernel
theorem dX7_init_20 : decode cX7_init 20 = .ok (.invokespecial 18, 3) := by decide +kernel
theorem dX7_init_23 : decode cX7_init 23 = .ok (.putfield 19, 3) := by decide +kernel
theorem dX7_init_26 : decode cX7_init 26 = .ok (.aload_n 0, 1) := by decide +kernel
theorem dX7_init_27 : decode cX7_init 27 = .ok (.new 23, 3) := by decide +kernel
theorem dX7_init_30 : decode cX7_init 30 = .ok (.dup, 1) := by decide +kernel
theorem dX7_init_31 : decode cX7_init 31 = .ok (.invokespecial 25, 3) := by decide +kernel
theorem dX7_init_34 : decode cX7_init 34 = .ok (.putfield 26, 3) := by decide +kernel
theorem dX7_init_37 : decode cX7_init 37 = .ok (.aload_n 0, 1) := by decide +kernel
theorem dX7_init_38 : decode cX7_init 38 = .ok (.new 23, 3) := by decide +kernel
theorem dX7_init_41 : decode cX7_init 41 = .ok (.dup, 1) := by decide +kernel
theorem dX7_init_42 : decode cX7_init 42 = .ok (.invokespecial 25, 3) := by decide +kernel
theorem dX7_init_45 : decode cX7_init 45 = .ok (.putfield 30, 3) := by decide +kernel
theorem dX7_init_48 : decode cX7_init 48 = .ok (.aload_n 0, 1) := by decide +kernel
theorem dX7_init_49 : decode cX7_init 49 = .ok (.new 33, 3) := by decide +kernel
theorem dX7_init_52 : decode cX7_init 52 = .ok (.dup, 1) := by decide +kernel
theorem dX7_init_53 : decode cX7_init 53 = .ok (.invokespecial 35, 3) := by decide +kernel
theorem dX7_init_56 : decode cX7_init 56 = .ok (.putfield 36, 3) := by decide +kernel
theorem dX7_init_59 : decode cX7_init 59 = .ok (.aload_n 0, 1) := by decide +kernel
theorem dX7_init_60 : decode cX7_init 60 = .ok (.new 40, 3) := by decide +kernel
theorem dX7_init_63 : decode cX7_init 63 = .ok (.dup, 1) := by decide +kernel
theorem dX7_init_64 : decode cX7_init 64 = .ok (.invokespecial 42, 3) := by decide +kernel
theorem dX7_init_67 : decode cX7_init 67 = .ok (.putfield 43, 3) := by decide +kernel
theorem dX7_init_70 : decode cX7_init 70 = .ok (.aload_n 0, 1) := by decide +kernel
theorem dX7_init_71 : decode cX7_init 71 = .ok (.new 47, 3) := by decide +kernel
theorem dX7_init_74 : decode cX7_init 74 = .ok (.dup, 1) := by decide +kernel
theorem dX7_init_75 : decode cX7_init 75 = .ok (.bipush 16, 2) := by decide +kernel
theorem dX7_init_77 : decode cX7_init 77 = .ok (.iconst 0, 1) := by decide +kernel
theorem dX7_init_78 : decode cX7_init 78 = .ok (.invokespecial 49, 3) := by decide +kernel
theorem dX7_init_81 : decode cX7_init 81 = .ok (.putfield 52, 3) := by decide +kernel
theorem dX7_init_84 : decode cX7_init 84 = .ok (.aload_n 0, 1) := by decide +kernel
theorem dX7_init_85 : decode cX7_init 85 = .ok (.bipush 40, 2) := by decide +kernel
theorem dX7_init_87 : decode cX7_init 87 = .ok (.putfield 56, 3) := by decide +kernel
theorem dX7_init_90 : decode cX7_init 90 = .ok (.return_, 1) := by decide +kernel
set_option maxRecDepth 20000 in
theorem ggX7_object_X6_addObject : GoodIn wsX7_object wsX6_addObject := goodIn_r _ [9, 10, 11, 12, 13, 14, 15, 16, 17, 26, 27, 28, 29, 30, 31, 32, 33, 34, 35, 36] (by decide +kernel) (by decide +kernel)
set_option maxRecDepth 20000 in
theorem gX7_object_X6_addObject : GoodIn wsX7_object (wsV RX7 70 RX6 yX6_addObject wsX6_addObject) := goodIn_app (goodIn_of _ (by decide +kernel)) ggX7_object_X6_addObject
theorem dX7_object_0 : decode cX7_object 0 = .ok (.aload_n 0, 1) := by decide +kernel
theorem dX7_object_1 : decode cX7_object 1 = .ok (.getfield 12, 3) := by decide +kernel
theorem dX7_object_4 : decode cX7_object 4 = .ok (.getfield 60, 3) := by decide +kernel
theorem dX7_object_7 : decode cX7_object 7 = .ok (.bipush 8, 2) := by decide +kernel
theorem dX7_object_9 : decode cX7_object 9 = .ok (.if_icmp .lt 13, 3) := by decide +kernel
theorem dX7_object_12 : decode cX7_object 12 = .ok (.new 63, 3) := by decide +kernel
theorem dX7_object_15 : decode cX7_object 15 = .ok (.dup, 1) := by decide +kernel
theorem dX7_object_16 : decode cX7_object 16 = .ok (.ldc 65, 2) := by decide +kernel
theorem dX7_object_18 : decode cX7_object 18 = .ok (.invokespecial 67, 3) := by decide +kernel
theorem dX7_object_21 : decode cX7_object 21 = .ok (.athrow, 1) := by decide +kernel
theorem dX7_object_22 : decode cX7_object 22 = .ok (.aload_n 0, 1) := by decide +kernel
theorem dX7_object_23 : decode cX7_object 23 = .ok (.getfield 12, 3) := by decide +kernel
theorem dX7_object_26 : decode cX7_object 26 = .ok (.iload_n 1, 1) := by decide +kernel
theorem dX7_object_27 : decode cX7_object 27 = .ok (.invokevirtual 70, 3) := by decide +kernel
theorem dX7_object_30 : decode cX7_object 30 = .ok (.ireturn, 1) := by decide +kernel
set_option maxRecDepth 20000 in
theorem ggX7_piece_X7_isWithin : GoodIn wsX7_piece wsX7_isWithin := goodIn_r _ [13] (by decide +kernel) (by decide +kernel)
set_option maxRecDepth 20000 in
theorem gX7_piece_X7_isWithin : GoodIn wsX7_piece (va_wsS RX7 74 yX7_isWithin wsX7_isWithin) := goodIn_app (goodIn_of _ (by decide +kernel)) ggX7_piece_X7_isWithin
set_option maxRecDepth 20000 in
theorem ggX7_piece_X7_isSymbol : GoodIn wsX7_piece wsX7_isSymbol := goodIn_r _ [16, 10, 11, 12, 13] (by decide +kernel) (by decide +kernel)
set_option maxRecDepth 20000 in
theorem gX7_piece_X7_isSymbol : GoodIn wsX7_piece (va_wsS RX7 78 yX7_isSymbol wsX7_isSymbol) := goodIn_app (goodIn_of _ (by decide +kernel)) ggX7_piece_X7_isSymbol
set_option maxRecDepth 20000 in
theorem ggX7_piece_X7_isPieceSize : GoodIn wsX7_piece wsX7_isPieceSize := goodIn_r _ [19] (by decide +kernel) (by decide +kernel)
set_option maxRecDepth 20000 in
theorem gX7_piece_X7_isPieceSize : GoodIn wsX7_piece (va_wsS RX7 87 yX7_isPieceSize wsX7_isPieceSize) := goodIn_app (goodIn_of _ (by decide +kernel)) ggX7_piece_X7_isPieceSize
set_option maxRecDepth 20000 in
theorem ggX7_piece_X6_addPiece : GoodIn wsX7_piece wsX6_addPiece := goodIn_r _ [24, 25, 26, 27, 28, 29, 30, 31, 32, 33, 34, 35, 44, 45, 46, 47, 48, 49, 50, 51, 52, 53, 54] (by decide +kernel) (by decide +kernel)
set_option maxRecDepth 20000 in
theorem gX7_piece_X6_addPiece : GoodIn wsX7_piece (wsV RX7 100 RX6 yX6_addPiece wsX6_addPiece) := goodIn_app (goodIn_of _ (by decide +kernel)) ggX7_piece_X6_addPiece
theorem dX7_piece_0 : decode cX7_piece 0 = .ok (.iload_n 1, 1) := by decide +kernel
theorem dX7_piece_1 : decode cX7_piece 1 = .ok (.aload_n 0, 1) := by decide +kernel
theorem dX7_piece_2 : decode cX7_piece 2 = .ok (.getfield 12, 3) := by decide +kernel
theorem dX7_piece_5 : decode cX7_piece 5 = .ok (.getfield 60, 3) := by decide +kernel
theorem dX7_piece_8 : decode cX7_piece 8 = .ok (.invokestatic 74, 3) := by decide +kernel
theorem dX7_piece_11 : decode cX7_piece 11 = .ok (.ifCond .eq 10, 3) := by decide +kernel
theorem dX7_piece_14 : decode cX7_piece 14 = .ok (.iload_n 2, 1) := by decide +kernel
theorem dX7_piece_15 : decode cX7_piece 15 = .ok (.invokestatic 78, 3) := by decide +kernel
theorem dX7_piece_18 : decode cX7_piece 18 = .ok (.ifCond .ne 13, 3) := by decide +kernel
theorem dX7_piece_21 : decode cX7_piece 21 = .ok (.new 82, 3) := by decide +kernel
theorem dX7_piece_24 : decode cX7_piece 24 = .ok (.dup, 1) := by decide +kernel
theorem dX7_piece_25 : decode cX7_piece 25 = .ok (.ldc 84, 2) := by decide +kernel
theorem dX7_piece_27 : decode cX7_piece 27 = .ok (.invokespecial 86, 3) := by decide +kernel
theorem dX7_piece_30 : decode cX7_piece 30 = .ok (.athrow, 1) := by decide +kernel
theorem dX7_piece_31 : decode cX7_piece 31 = .ok (.iload_n 3, 1) := by decide +kernel
theorem dX7_piece_32 : decode cX7_piece 32 = .ok (.invokestatic 87, 3) := by decide +kernel
theorem dX7_piece_35 : decode cX7_piece 35 = .ok (.ifCond .ne 13, 3) := by decide +kernel
theorem dX7_piece_38 : decode cX7_piece 38 = .ok (.new 90, 3) := by decide +kernel
theorem dX7_piece_41 : decode cX7_piece 41 = .ok (.dup, 1) := by decide +kernel
theorem dX7_piece_42 : decode cX7_piece 42 = .ok (.ldc 92, 2) := by decide +kernel
theorem dX7_piece_44 : decode cX7_piece 44 = .ok (.invokespecial 94, 3) := by decide +kernel
theorem dX7_piece_47 : decode cX7_piece 47 = .ok (.athrow, 1) := by decide +kernel
theorem dX7_piece_48 : decode cX7_piece 48 = .ok (.aload_n 0, 1) := by decide +kernel
theorem dX7_piece_49 : decode cX7_piece 49 = .ok (.getfield 12, 3) := by decide +kernel
theorem dX7_piece_52 : decode cX7_piece 52 = .ok (.getfield 95, 3) := by decide +kernel
theorem dX7_piece_55 : decode cX7_piece 55 = .ok (.bipush 40, 2) := by decide +kernel
theorem dX7_piece_57 : decode cX7_piece 57 = .ok (.if_icmp .lt 13, 3) := by decide +kernel
theorem dX7_piece_60 : decode cX7_piece 60 = .ok (.new 63, 3) := by decide +kernel
theorem dX7_piece_63 : decode cX7_piece 63 = .ok (.dup, 1) := by decide +kernel
theorem dX7_piece_64 : decode cX7_piece 64 = .ok (.ldc 98, 2) := by decide +kernel
theorem dX7_piece_66 : decode cX7_piece 66 = .ok (.invokespecial 67, 3) := by decide +kernel
theorem dX7_piece_69 : decode cX7_piece 69 = .ok (.athrow, 1) := by decide +kernel
theorem dX7_piece_70 : decode cX7_piece 70 = .ok (.aload_n 0, 1) := by decide +kernel
theorem dX7_piece_71 : decode cX7_piece 71 = .ok (.getfield 12, 3) := by decide +kernel
theorem dX7_piece_74 : decode cX7_piece 74 = .ok (.iload_n 1, 1) := by decide +kernel
theorem dX7_piece_75 : decode cX7_piece 75 = .ok (.iload_n 2, 1) := by decide +kernel
theorem dX7_piece_76 : decode cX7_piece 76 = .ok (.iload_n 3, 1) := by decide +kernel
theorem dX7_piece_77 : decode cX7_piece 77 = .ok (.iload 4, 2) := by decide +kernel
theorem dX7_piece_79 : decode cX7_piece 79 = .ok (.ifCond .ne 7, 3) := by decide +kernel
theorem dX7_piece_82 : decode cX7_piece 82 = .ok (.iconst 1, 1) := by decide +kernel
theorem dX7_piece_83 : decode cX7_piece 83 = .ok (.goto 4, 3) := by decide +kernel
theorem dX7_piece_86 : decode cX7_piece 86 = .ok (.iconst 0, 1) := by decide +kernel
theorem dX7_piece_87 : decode cX7_piece 87 = .ok (.invokevirtual 100, 3) := by decide +kernel
theorem dX7_piece_90 : decode cX7_piece 90 = .ok (.ireturn, 1) := by decide +kernel
set_option maxRecDepth 20000 in
theorem ggX7_refer_X7_isWithin : GoodIn wsX7_refer wsX7_isWithin := goodIn_r _ [13] (by decide +kernel) (by decide +kernel)
set_option maxRecDepth 20000 in
theorem gX7_refer_X7_isWithin : GoodIn wsX7_refer (va_wsS RX7 74 yX7_isWithin wsX7_isWithin) := goodIn_app (goodIn_of _ (by decide +kernel)) ggX7_refer_X7_isWithin
set_option maxRecDepth 20000 in
theorem ggX7_refer_X7_isSymbol : GoodIn wsX7_refer wsX7_isSymbol := goodIn_r _ [16, 10, 11, 12, 13] (by decide +kernel) (by decide +kernel)
set_option maxRecDepth 20000 in
theorem gX7_refer_X7_isSymbol : GoodIn wsX7_refer (va_wsS RX7 78 yX7_isSymbol wsX7_isSymbol) := goodIn_app (goodIn_of _ (by decide +kernel)) ggX7_refer_X7_isSymbol
set_option maxRecDepth 20000 in
theorem ggX7_refer_X4_get : GoodIn wsX7_refer wsX4_get := goodIn_r _ [21, 22, 77] (by decide +kernel) (by decide +kernel)
set_option maxRecDepth 20000 in
theorem gX7_refer_X4_get : GoodIn wsX7_refer (wsV RX7 109 RX4 yX4_get wsX4_get) := goodIn_app (goodIn_of _ (by decide +kernel)) ggX7_refer_X4_get
set_option maxRecDepth 20000 in
theorem ggX7_refer_X6_isOfPatch : GoodIn wsX7_refer wsX6_isOfPatch := goodIn_r _ [27, 28, 29, 18, 19, 20, 21, 22, 62, 63, 64, 65, 66, 67, 68, 69, 70, 71, 77] (by decide +kernel) (by decide +kernel)
set_option maxRecDepth 20000 in
theorem gX7_refer_X6_isOfPatch : GoodIn wsX7_refer (wsV RX7 113 RX6 yX6_isOfPatch wsX6_isOfPatch) := goodIn_app (goodIn_of _ (by decide +kernel)) ggX7_refer_X6_isOfPatch
set_option maxRecDepth 20000 in
theorem ggX7_refer_X1_isLaid : GoodIn wsX7_refer wsX1_isLaid := goodIn_r _ [34, 35, 36, 18, 19, 20, 21, 22, 78, 79, 80, 81, 82, 83, 77] (by decide +kernel) (by decide +kernel)
set_option maxRecDepth 20000 in
theorem gX7_refer_X1_isLaid : GoodIn wsX7_refer (wsV RX7 120 RX1 yX1_isLaid wsX1_isLaid) := goodIn_app (goodIn_of _ (by decide +kernel)) ggX7_refer_X1_isLaid
set_option maxRecDepth 20000 in
theorem ggX7_refer_X6_addReference : GoodIn wsX7_refer wsX6_addReference := goodIn_r _ [40, 41, 42, 43, 29, 18, 19, 20, 21, 22, 44, 45, 46, 47, 48, 49, 50, 51, 52, 53, 62, 63, 64, 65, 66, 67, 68, 69, 70, 71, 77] (by decide +kernel) (by decide +kernel)
set_option maxRecDepth 20000 in
theorem gX7_refer_X6_addReference : GoodIn wsX7_refer (wsV RX7 127 RX6 yX6_addReference wsX6_addReference) := goodIn_app (goodIn_of _ (by decide +kernel)) ggX7_refer_X6_addReference
theorem dX7_refer_0 : decode cX7_refer 0 = .ok (.iload_n 1, 1) := by decide +kernel
theorem dX7_refer_1 : decode cX7_refer 1 = .ok (.aload_n 0, 1) := by decide +kernel
theorem dX7_refer_2 : decode cX7_refer 2 = .ok (.getfield 12, 3) := by decide +kernel
theorem dX7_refer_5 : decode cX7_refer 5 = .ok (.getfield 95, 3) := by decide +kernel
theorem dX7_refer_8 : decode cX7_refer 8 = .ok (.invokestatic 74, 3) := by decide +kernel
theorem dX7_refer_11 : decode cX7_refer 11 = .ok (.ifCond .eq 10, 3) := by decide +kernel
theorem dX7_refer_14 : decode cX7_refer 14 = .ok (.iload_n 2, 1) := by decide +kernel
theorem dX7_refer_15 : decode cX7_refer 15 = .ok (.invokestatic 78, 3) := by decide +kernel
theorem dX7_refer_18 : decode cX7_refer 18 = .ok (.ifCond .ne 13, 3) := by decide +kernel
theorem dX7_refer_21 : decode cX7_refer 21 = .ok (.new 82, 3) := by decide +kernel
theorem dX7_refer_24 : decode cX7_refer 24 = .ok (.dup, 1) := by decide +kernel
theorem dX7_refer_25 : decode cX7_refer 25 = .ok (.ldc 104, 2) := by decide +kernel
theorem dX7_refer_27 : decode cX7_refer 27 = .ok (.invokespecial 86, 3) := by decide +kernel
theorem dX7_refer_30 : decode cX7_refer 30 = .ok (.athrow, 1) := by decide +kernel
theorem dX7_refer_31 : decode cX7_refer 31 = .ok (.aload_n 0, 1) := by decide +kernel
theorem dX7_refer_32 : decode cX7_refer 32 = .ok (.getfield 12, 3) := by decide +kernel
theorem dX7_refer_35 : decode cX7_refer 35 = .ok (.getfield 106, 3) := by decide +kernel
theorem dX7_refer_38 : decode cX7_refer 38 = .ok (.iload_n 1, 1) := by decide +kernel
theorem dX7_refer_39 : decode cX7_refer 39 = .ok (.invokevirtual 109, 3) := by decide +kernel
theorem dX7_refer_42 : decode cX7_refer 42 = .ok (.iconst 3, 1) := by decide +kernel
theorem dX7_refer_43 : decode cX7_refer 43 = .ok (.if_icmp .ge 28, 3) := by decide +kernel
theorem dX7_refer_46 : decode cX7_refer 46 = .ok (.aload_n 0, 1) := by decide +kernel
theorem dX7_refer_47 : decode cX7_refer 47 = .ok (.getfield 12, 3) := by decide +kernel
theorem dX7_refer_50 : decode cX7_refer 50 = .ok (.iload_n 1, 1) := by decide +kernel
theorem dX7_refer_51 : decode cX7_refer 51 = .ok (.invokevirtual 113, 3) := by decide +kernel
theorem dX7_refer_54 : decode cX7_refer 54 = .ok (.ifCond .ne 17, 3) := by decide +kernel
theorem dX7_refer_57 : decode cX7_refer 57 = .ok (.aload_n 0, 1) := by decide +kernel
theorem dX7_refer_58 : decode cX7_refer 58 = .ok (.getfield 26, 3) := by decide +kernel
theorem dX7_refer_61 : decode cX7_refer 61 = .ok (.getfield 116, 3) := by decide +kernel
theorem dX7_refer_64 : decode cX7_refer 64 = .ok (.iload_n 1, 1) := by decide +kernel
theorem dX7_refer_65 : decode cX7_refer 65 = .ok (.invokevirtual 120, 3) := by decide +kernel
theorem dX7_refer_68 : decode cX7_refer 68 = .ok (.ifCond .eq 13, 3) := by decide +kernel
theorem dX7_refer_71 : decode cX7_refer 71 = .ok (.new 63, 3) := by decide +kernel
theorem dX7_refer_74 : decode cX7_refer 74 = .ok (.dup, 1) := by decide +kernel
theorem dX7_refer_75 : decode cX7_refer 75 = .ok (.ldc 125, 2) := by decide +kernel
theorem dX7_refer_77 : decode cX7_refer 77 = .ok (.invokespecial 67, 3) := by decide +kernel
theorem dX7_refer_80 : decode cX7_refer 80 = .ok (.athrow, 1) := by decide +kernel
theorem dX7_refer_81 : decode cX7_refer 81 = .ok (.aload_n 0, 1) := by decide +kernel
theorem dX7_refer_82 : decode cX7_refer 82 = .ok (.getfield 12, 3) := by decide +kernel
theorem dX7_refer_85 : decode cX7_refer 85 = .ok (.iload_n 1, 1) := by decide +kernel
theorem dX7_refer_86 : decode cX7_refer 86 = .ok (.iload_n 2, 1) := by decide +kernel
theorem dX7_refer_87 : decode cX7_refer 87 = .ok (.iload_n 3, 1) := by decide +kernel
theorem dX7_refer_88 : decode cX7_refer 88 = .ok (.invokevirtual 127, 3) := by decide +kernel
theorem dX7_refer_91 : decode cX7_refer 91 = .ok (.ireturn, 1) := by decide +kernel
set_option maxRecDepth 20000 in
theorem ggX7_reach_X7_isReach : GoodIn wsX7_reach wsX7_isReach := goodIn_r _ [7] (by decide +kernel) (by decide +kernel)
set_option maxRecDepth 20000 in
theorem gX7_reach_X7_isReach : GoodIn wsX7_reach (va_wsS RX7 131 yX7_isReach wsX7_isReach) := goodIn_app (goodIn_of _ (by decide +kernel)) ggX7_reach_X7_isReach
theorem dX7_reach_0 : decode cX7_reach 0 = .ok (.iload_n 1, 1) := by decide +kernel
theorem dX7_reach_1 : decode cX7_reach 1 = .ok (.invokestatic 131, 3) := by decide +kernel
theorem dX7_reach_4 : decode cX7_reach 4 = .ok (.ifCond .ne 13, 3) := by decide +kernel
theorem dX7_reach_7 : decode cX7_reach 7 = .ok (.new 90, 3) := by decide +kernel
theorem dX7_reach_10 : decode cX7_reach 10 = .ok (.dup, 1) := by decide +kernel
theorem dX7_reach_11 : decode cX7_reach 11 = .ok (.ldc 134, 2) := by decide +kernel
theorem dX7_reach_13 : decode cX7_reach 13 = .ok (.invokespecial 94, 3) := by decide +kernel
theorem dX7_reach_16 : decode cX7_reach 16 = .ok (.athrow, 1) := by decide +kernel
theorem dX7_reach_17 : decode cX7_reach 17 = .ok (.aload_n 0, 1) := by decide +kernel
theorem dX7_reach_18 : decode cX7_reach 18 = .ok (.getfield 56, 3) := by decide +kernel
theorem dX7_reach_21 : decode cX7_reach 21 = .ok (.istore_n 2, 1) := by decide +kernel
theorem dX7_reach_22 : decode cX7_reach 22 = .ok (.aload_n 0, 1) := by decide +kernel
theorem dX7_reach_23 : decode cX7_reach 23 = .ok (.iload_n 1, 1) := by decide +kernel
theorem dX7_reach_24 : decode cX7_reach 24 = .ok (.putfield 56, 3) := by decide +kernel
theorem dX7_reach_27 : decode cX7_reach 27 = .ok (.iload_n 2, 1) := by decide +kernel
theorem dX7_reach_28 : decode cX7_reach 28 = .ok (.ireturn, 1) := by decide +kernel
set_option maxRecDepth 20000 in
theorem ggX7_link_X5_count : GoodIn wsX7_link wsX5_count := goodIn_r _ [15, 16, 17, 18, 19, 20, 21, 22, 259, 260, 261] (by decide +kernel) (by decide +kernel)
set_option maxRecDepth 20000 in
theorem gX7_link_X5_count : GoodIn wsX7_link (wsV RX7 136 RX5 yX5_count wsX5_count) := goodIn_app (goodIn_of _ (by decide +kernel)) ggX7_link_X5_count
set_option maxRecDepth 20000 in
theorem ggX7_link_X2_attempt : GoodIn wsX7_link wsX2_attempt := goodIn_r _ [27, 28, 29, 30, 31, 32, 26, 33, 34, 35, 36, 37, 38, 39, 40, 41, 42, 43, 44, 45, 46, 47, 48, 49, 50, 51, 20, 52, 22, 53, 54, 55, 56, 57, 58, 59, 60, 61, 62, 63, 64, 65, 66, 67, 68, 69, 70, 71, 72, 73, 74, 75, 76, 77, 78, 79, 80, 81, 82, 83, 84, 85, 86, 87, 88, 89, 90, 91, 92, 93, 94, 95, 96, 97, 98, 99, 100, 101, 102, 103, 104, 105, 106, 107, 108, 109, 110, 111, 112, 113, 114, 115, 116, 117, 118, 119, 120, 121, 122, 123, 124, 125, 126, 127, 128, 129, 130, 131, 132, 133, 134, 135, 136, 137, 138, 139, 140, 141, 142, 143, 144, 145, 146, 147, 148, 149, 150, 151, 152, 153, 154, 155, 156, 157, 158, 159, 160, 161, 162, 163, 164, 165, 166, 167, 168, 169, 170, 171, 172, 173, 174, 175, 176, 177, 178, 179, 180, 181, 182, 183, 184, 185, 186, 187, 188, 189, 190, 191, 192, 193, 194, 195, 196, 197, 198, 199, 200, 201, 202, 203, 204, 249, 250, 251, 252, 253, 254, 255, 256, 257, 258, 262, 263, 264, 265, 266, 267, 261, 268, 269, 270, 271, 272, 273, 274, 275, 276, 277] (by decide +kernel) (by decide +kernel)
set_option maxRecDepth 20000 in
theorem gX7_link_X2_attempt : GoodIn wsX7_link (wsV RX7 142 RX2 yX2_attempt wsX2_attempt) := goodIn_app (goodIn_of _ (by decide +kernel)) ggX7_link_X2_attempt
set_option maxRecDepth 20000 in
theorem ggX7_link_X0_begin : GoodIn wsX7_link wsX0_begin := goodIn_r _ [209, 210, 211, 212, 213, 214, 215, 216, 217, 218, 219, 41, 220, 43, 44, 45, 46, 47, 48, 221, 222, 223, 20, 224, 22, 225, 50, 51, 52, 226, 227, 228, 208, 229, 230, 231, 232, 71, 72, 73, 233, 194, 195, 196, 177, 61, 62, 63, 234, 278, 279, 280, 281, 282, 268, 269, 270, 271, 272, 273, 274, 275, 276, 277, 262, 263, 264, 265, 266, 267, 261] (by decide +kernel) (by decide +kernel)
set_option maxRecDepth 20000 in
theorem gX7_link_X0_begin : GoodIn wsX7_link (wsV RX7 150 RX0 yX0_begin wsX0_begin) := goodIn_app (goodIn_of _ (by decide +kernel)) ggX7_link_X0_begin
set_option maxRecDepth 20000 in
theorem ggX7_link_X3_forget : GoodIn wsX7_link wsX3_forget := goodIn_r _ [239, 240, 283, 284, 285, 286] (by decide +kernel) (by decide +kernel)
set_option maxRecDepth 20000 in
theorem gX7_link_X3_forget : GoodIn wsX7_link (wsV RX7 154 RX3 yX3_forget wsX3_forget) := goodIn_app (goodIn_of _ (by decide +kernel)) ggX7_link_X3_forget
theorem dX7_link_0 : decode cX7_link 0 = .ok (.aload_n 0, 1) := by decide +kernel
theorem dX7_link_1 : decode cX7_link 1 = .ok (.getfield 36, 3) := by decide +kernel
theorem dX7_link_4 : decode cX7_link 4 = .ok (.invokevirtual 136, 3) := by decide +kernel
theorem dX7_link_7 : decode cX7_link 7 = .ok (.ifCond .le 13, 3) := by decide +kernel
theorem dX7_link_10 : decode cX7_link 10 = .ok (.new 63, 3) := by decide +kernel
theorem dX7_link_13 : decode cX7_link 13 = .ok (.dup, 1) := by decide +kernel
theorem dX7_link_14 : decode cX7_link 14 = .ok (.ldc 140, 2) := by decide +kernel
theorem dX7_link_16 : decode cX7_link 16 = .ok (.invokespecial 67, 3) := by decide +kernel
theorem dX7_link_19 : decode cX7_link 19 = .ok (.athrow, 1) := by decide +kernel
theorem dX7_link_20 : decode cX7_link 20 = .ok (.aload_n 0, 1) := by decide +kernel
theorem dX7_link_21 : decode cX7_link 21 = .ok (.getfield 19, 3) := by decide +kernel
theorem dX7_link_24 : decode cX7_link 24 = .ok (.aload_n 0, 1) := by decide +kernel
theorem dX7_link_25 : decode cX7_link 25 = .ok (.getfield 12, 3) := by decide +kernel
theorem dX7_link_28 : decode cX7_link 28 = .ok (.aload_n 0, 1) := by decide +kernel
theorem dX7_link_29 : decode cX7_link 29 = .ok (.getfield 56, 3) := by decide +kernel
theorem dX7_link_32 : decode cX7_link 32 = .ok (.iconst (-1), 1) := by decide +kernel
theorem dX7_link_33 : decode cX7_link 33 = .ok (.invokevirtual 142, 3) := by decide +kernel
theorem dX7_link_36 : decode cX7_link 36 = .ok (.aload_n 0, 1) := by decide +kernel
theorem dX7_link_37 : decode cX7_link 37 = .ok (.getfield 19, 3) := by decide +kernel
theorem dX7_link_40 : decode cX7_link 40 = .ok (.getfield 146, 3) := by decide +kernel
theorem dX7_link_43 : decode cX7_link 43 = .ok (.ifCond .ne 28, 3) := by decide +kernel
theorem dX7_link_46 : decode cX7_link 46 = .ok (.aload_n 0, 1) := by decide +kernel
theorem dX7_link_47 : decode cX7_link 47 = .ok (.getfield 26, 3) := by decide +kernel
theorem dX7_link_50 : decode cX7_link 50 = .ok (.aload_n 0, 1) := by decide +kernel
theorem dX7_link_51 : decode cX7_link 51 = .ok (.getfield 12, 3) := by decide +kernel
theorem dX7_link_54 : decode cX7_link 54 = .ok (.aload_n 0, 1) := by decide +kernel
theorem dX7_link_55 : decode cX7_link 55 = .ok (.getfield 19, 3) := by decide +kernel
theorem dX7_link_58 : decode cX7_link 58 = .ok (.getfield 149, 3) := by decide +kernel
theorem dX7_link_61 : decode cX7_link 61 = .ok (.invokevirtual 150, 3) := by decide +kernel
theorem dX7_link_64 : decode cX7_link 64 = .ok (.aload_n 0, 1) := by decide +kernel
theorem dX7_link_65 : decode cX7_link 65 = .ok (.getfield 43, 3) := by decide +kernel
theorem dX7_link_68 : decode cX7_link 68 = .ok (.invokevirtual 154, 3) := by decide +kernel
theorem dX7_link_71 : decode cX7_link 71 = .ok (.aload_n 0, 1) := by decide +kernel
theorem dX7_link_72 : decode cX7_link 72 = .ok (.getfield 19, 3) := by decide +kernel
theorem dX7_link_75 : decode cX7_link 75 = .ok (.getfield 146, 3) := by decide +kernel
theorem dX7_link_78 : decode cX7_link 78 = .ok (.ireturn, 1) := by decide +kernel
set_option maxRecDepth 20000 in
theorem ggX7_fault_X2_attempt : GoodIn wsX7_fault wsX2_attempt := goodIn_r _ [13, 14, 15, 16, 17, 18, 12, 19, 20, 21, 22, 23, 24, 25, 26, 27, 28, 29, 30, 31, 32, 33, 34, 35, 36, 37, 38, 39, 40, 41, 42, 43, 44, 45, 46, 47, 48, 49, 50, 51, 52, 53, 54, 55, 56, 57, 58, 59, 60, 61, 62, 63, 64, 65, 66, 67, 68, 69, 70, 71, 72, 73, 74, 75, 76, 77, 78, 79, 80, 81, 82, 83, 84, 85, 86, 87, 88, 89, 90, 91, 92, 93, 94, 95, 96, 97, 98, 99, 100, 101, 102, 103, 104, 105, 106, 107, 108, 109, 110, 111, 112, 113, 114, 115, 116, 117, 118, 119, 120, 121, 122, 123, 124, 125, 126, 127, 128, 129, 130, 131, 132, 133, 134, 135, 136, 137, 138, 139, 140, 141, 142, 143, 144, 145, 146, 147, 148, 149, 150, 151, 152, 153, 154, 155, 156, 157, 158, 159, 160, 161, 162, 163, 164, 165, 166, 167, 168, 169, 170, 171, 172, 173, 174, 175, 176, 177, 178, 179, 180, 181, 182, 183, 184, 185, 186, 187, 188, 189, 190, 191, 192, 212, 213, 214, 215, 216, 217, 218, 219, 220, 221, 222, 223, 224, 225, 226, 227, 228, 229, 230, 231, 232, 233, 234, 235, 236, 237, 238] (by decide +kernel) (by decide +kernel)
set_option maxRecDepth 20000 in
theorem gX7_fault_X2_attempt : GoodIn wsX7_fault (wsV RX7 142 RX2 yX2_attempt wsX2_attempt) := goodIn_app (goodIn_of _ (by decide +kernel)) ggX7_fault_X2_attempt
set_option maxRecDepth 20000 in
theorem ggX7_fault_X7_isWithin : GoodIn wsX7_fault wsX7_isWithin := goodIn_r _ [196] (by decide +kernel) (by decide +kernel)
set_option maxRecDepth 20000 in
theorem gX7_fault_X7_isWithin : GoodIn wsX7_fault (va_wsS RX7 74 yX7_isWithin wsX7_isWithin) := goodIn_app (goodIn_of _ (by decide +kernel)) ggX7_fault_X7_isWithin
set_option maxRecDepth 20000 in
theorem ggX7_fault_X7_tellFault : GoodIn wsX7_fault wsX7_tellFault := goodIn_r _ [200, 5, 201, 202, 203, 49, 50, 38, 51, 40, 204, 205, 206, 207, 208, 209, 210, 211, 212, 213, 214, 215, 216, 217, 218, 219, 220, 221, 228] (by decide +kernel) (by decide +kernel)
set_option maxRecDepth 20000 in
theorem gX7_fault_X7_tellFault : GoodIn wsX7_fault (wsV RX7 161 RX7 yX7_tellFault wsX7_tellFault) := goodIn_app (goodIn_of _ (by decide +kernel)) ggX7_fault_X7_tellFault
theorem dX7_fault_0 : decode cX7_fault 0 = .ok (.aload_n 0, 1) := by decide +kernel
theorem dX7_fault_1 : decode cX7_fault 1 = .ok (.getfield 19, 3) := by decide +kernel
theorem dX7_fault_4 : decode cX7_fault 4 = .ok (.aload_n 0, 1) := by decide +kernel
theorem dX7_fault_5 : decode cX7_fault 5 = .ok (.getfield 12, 3) := by decide +kernel
theorem dX7_fault_8 : decode cX7_fault 8 = .ok (.aload_n 0, 1) := by decide +kernel
theorem dX7_fault_9 : decode cX7_fault 9 = .ok (.getfield 56, 3) := by decide +kernel
theorem dX7_fault_12 : decode cX7_fault 12 = .ok (.iconst (-1), 1) := by decide +kernel
theorem dX7_fault_13 : decode cX7_fault 13 = .ok (.invokevirtual 142, 3) := by decide +kernel
theorem dX7_fault_16 : decode cX7_fault 16 = .ok (.iload_n 1, 1) := by decide +kernel
theorem dX7_fault_17 : decode cX7_fault 17 = .ok (.aload_n 0, 1) := by decide +kernel
theorem dX7_fault_18 : decode cX7_fault 18 = .ok (.getfield 19, 3) := by decide +kernel
theorem dX7_fault_21 : decode cX7_fault 21 = .ok (.getfield 146, 3) := by decide +kernel
theorem dX7_fault_24 : decode cX7_fault 24 = .ok (.invokestatic 74, 3) := by decide +kernel
theorem dX7_fault_27 : decode cX7_fault 27 = .ok (.ifCond .ne 13, 3) := by decide +kernel
theorem dX7_fault_30 : decode cX7_fault 30 = .ok (.new 82, 3) := by decide +kernel
theorem dX7_fault_33 : decode cX7_fault 33 = .ok (.dup, 1) := by decide +kernel
theorem dX7_fault_34 : decode cX7_fault 34 = .ok (.ldc 157, 2) := by decide +kernel
theorem dX7_fault_36 : decode cX7_fault 36 = .ok (.invokespecial 86, 3) := by decide +kernel
theorem dX7_fault_39 : decode cX7_fault 39 = .ok (.athrow, 1) := by decide +kernel
theorem dX7_fault_40 : decode cX7_fault 40 = .ok (.iload_n 2, 1) := by decide +kernel
theorem dX7_fault_41 : decode cX7_fault 41 = .ok (.iconst 2, 1) := by decide +kernel
theorem dX7_fault_42 : decode cX7_fault 42 = .ok (.invokestatic 74, 3) := by decide +kernel
theorem dX7_fault_45 : decode cX7_fault 45 = .ok (.ifCond .ne 13, 3) := by decide +kernel
theorem dX7_fault_48 : decode cX7_fault 48 = .ok (.new 90, 3) := by decide +kernel
theorem dX7_fault_51 : decode cX7_fault 51 = .ok (.dup, 1) := by decide +kernel
theorem dX7_fault_52 : decode cX7_fault 52 = .ok (.ldc 159, 2) := by decide +kernel
theorem dX7_fault_54 : decode cX7_fault 54 = .ok (.invokespecial 94, 3) := by decide +kernel
theorem dX7_fault_57 : decode cX7_fault 57 = .ok (.athrow, 1) := by decide +kernel
theorem dX7_fault_58 : decode cX7_fault 58 = .ok (.aload_n 0, 1) := by decide +kernel
theorem dX7_fault_59 : decode cX7_fault 59 = .ok (.iload_n 1, 1) := by decide +kernel
theorem dX7_fault_60 : decode cX7_fault 60 = .ok (.iload_n 2, 1) := by decide +kernel
theorem dX7_fault_61 : decode cX7_fault 61 = .ok (.invokevirtual 161, 3) := by decide +kernel
theorem dX7_fault_64 : decode cX7_fault 64 = .ok (.ireturn, 1) := by decide +kernel
set_option maxRecDepth 20000 in
theorem ggX7_ofSymbol_X7_isSymbol : GoodIn wsX7_ofSymbol wsX7_isSymbol := goodIn_r _ [8, 9, 10, 7, 11] (by decide +kernel) (by decide +kernel)
set_option maxRecDepth 20000 in
theorem gX7_ofSymbol_X7_isSymbol : GoodIn wsX7_ofSymbol (va_wsS RX7 78 yX7_isSymbol wsX7_isSymbol) := goodIn_app (goodIn_of _ (by decide +kernel)) ggX7_ofSymbol_X7_isSymbol
set_option maxRecDepth 20000 in
theorem ggX7_ofSymbol_X7_isWithin : GoodIn wsX7_ofSymbol wsX7_isWithin := goodIn_r _ [11] (by decide +kernel) (by decide +kernel)
set_option maxRecDepth 20000 in
theorem gX7_ofSymbol_X7_isWithin : GoodIn wsX7_ofSymbol (va_wsS RX7 74 yX7_isWithin wsX7_isWithin) := goodIn_app (goodIn_of _ (by decide +kernel)) ggX7_ofSymbol_X7_isWithin
set_option maxRecDepth 20000 in
theorem ggX7_ofSymbol_X7_tellSymbol : GoodIn wsX7_ofSymbol wsX7_tellSymbol := goodIn_r _ [15, 16, 17, 18, 19, 20, 21, 22, 23, 24, 25, 26, 27, 28, 29, 30, 31, 32, 33, 34, 35, 36, 37, 38, 39, 40, 41, 42, 43, 44, 45, 46, 47, 48, 49, 50, 51, 52, 53, 54, 55, 56, 57, 58, 59, 60, 61, 62, 63, 64, 65, 66, 67, 68, 69, 70, 71, 72, 73, 74, 75, 76, 77, 78, 79, 80, 81, 82, 83] (by decide +kernel) (by decide +kernel)
set_option maxRecDepth 20000 in
theorem gX7_ofSymbol_X7_tellSymbol : GoodIn wsX7_ofSymbol (wsV RX7 169 RX7 yX7_tellSymbol wsX7_tellSymbol) := goodIn_app (goodIn_of _ (by decide +kernel)) ggX7_ofSymbol_X7_tellSymbol
theorem dX7_ofSymbol_0 : decode cX7_ofSymbol 0 = .ok (.iload_n 1, 1) := by decide +kernel
theorem dX7_ofSymbol_1 : decode cX7_ofSymbol 1 = .ok (.invokestatic 78, 3) := by decide +kernel
theorem dX7_ofSymbol_4 : decode cX7_ofSymbol 4 = .ok (.ifCond .ne 13, 3) := by decide +kernel
theorem dX7_ofSymbol_7 : decode cX7_ofSymbol 7 = .ok (.new 82, 3) := by decide +kernel
theorem dX7_ofSymbol_10 : decode cX7_ofSymbol 10 = .ok (.dup, 1) := by decide +kernel
theorem dX7_ofSymbol_11 : decode cX7_ofSymbol 11 = .ok (.ldc 165, 2) := by decide +kernel
theorem dX7_ofSymbol_13 : decode cX7_ofSymbol 13 = .ok (.invokespecial 86, 3) := by decide +kernel
theorem dX7_ofSymbol_16 : decode cX7_ofSymbol 16 = .ok (.athrow, 1) := by decide +kernel
theorem dX7_ofSymbol_17 : decode cX7_ofSymbol 17 = .ok (.iload_n 2, 1) := by decide +kernel
theorem dX7_ofSymbol_18 : decode cX7_ofSymbol 18 = .ok (.iconst 4, 1) := by decide +kernel
theorem dX7_ofSymbol_19 : decode cX7_ofSymbol 19 = .ok (.invokestatic 74, 3) := by decide +kernel
theorem dX7_ofSymbol_22 : decode cX7_ofSymbol 22 = .ok (.ifCond .ne 13, 3) := by decide +kernel
theorem dX7_ofSymbol_25 : decode cX7_ofSymbol 25 = .ok (.new 90, 3) := by decide +kernel
theorem dX7_ofSymbol_28 : decode cX7_ofSymbol 28 = .ok (.dup, 1) := by decide +kernel
theorem dX7_ofSymbol_29 : decode cX7_ofSymbol 29 = .ok (.ldc 167, 2) := by decide +kernel
theorem dX7_ofSymbol_31 : decode cX7_ofSymbol 31 = .ok (.invokespecial 94, 3) := by decide +kernel
theorem dX7_ofSymbol_34 : decode cX7_ofSymbol 34 = .ok (.athrow, 1) := by decide +kernel
theorem dX7_ofSymbol_35 : decode cX7_ofSymbol 35 = .ok (.aload_n 0, 1) := by decide +kernel
theorem dX7_ofSymbol_36 : decode cX7_ofSymbol 36 = .ok (.iload_n 1, 1) := by decide +kernel
theorem dX7_ofSymbol_37 : decode cX7_ofSymbol 37 = .ok (.iload_n 2, 1) := by decide +kernel
theorem dX7_ofSymbol_38 : decode cX7_ofSymbol 38 = .ok (.invokevirtual 169, 3) := by decide +kernel
theorem dX7_ofSymbol_41 : decode cX7_ofSymbol 41 = .ok (.ireturn, 1) := by decide +kernel
set_option maxRecDepth 20000 in
theorem ggX7_ofPiece_X7_isWithin : GoodIn wsX7_ofPiece wsX7_isWithin := goodIn_r _ [10] (by decide +kernel) (by decide +kernel)
set_option maxRecDepth 20000 in
theorem gX7_ofPiece_X7_isWithin : GoodIn wsX7_ofPiece (va_wsS RX7 74 yX7_isWithin wsX7_isWithin) := goodIn_app (goodIn_of _ (by decide +kernel)) ggX7_ofPiece_X7_isWithin
set_option maxRecDepth 20000 in
theorem ggX7_ofPiece_X7_tellPiece : GoodIn wsX7_ofPiece wsX7_tellPiece := goodIn_r _ [14, 5, 15, 16, 17, 18, 19, 20, 21, 22, 23, 24, 25, 26, 27, 28, 29, 30, 31, 32, 33, 34, 35, 36, 37, 38, 39, 40, 41, 42, 43, 44, 45, 46, 47, 48, 49, 50, 51, 52, 53, 54, 55, 56, 57, 58, 59, 60, 61, 62, 63, 64, 65, 66, 67, 68, 69, 70, 71, 72, 73] (by decide +kernel) (by decide +kernel)
set_option maxRecDepth 20000 in
theorem gX7_ofPiece_X7_tellPiece : GoodIn wsX7_ofPiece (wsV RX7 176 RX7 yX7_tellPiece wsX7_tellPiece) := goodIn_app (goodIn_of _ (by decide +kernel)) ggX7_ofPiece_X7_tellPiece
theorem dX7_ofPiece_0 : decode cX7_ofPiece 0 = .ok (.iload_n 1, 1) := by decide +kernel
theorem dX7_ofPiece_1 : decode cX7_ofPiece 1 = .ok (.aload_n 0, 1) := by decide +kernel
theorem dX7_ofPiece_2 : decode cX7_ofPiece 2 = .ok (.getfield 12, 3) := by decide +kernel
theorem dX7_ofPiece_5 : decode cX7_ofPiece 5 = .ok (.getfield 95, 3) := by decide +kernel
theorem dX7_ofPiece_8 : decode cX7_ofPiece 8 = .ok (.invokestatic 74, 3) := by decide +kernel
theorem dX7_ofPiece_11 : decode cX7_ofPiece 11 = .ok (.ifCond .ne 13, 3) := by decide +kernel
theorem dX7_ofPiece_14 : decode cX7_ofPiece 14 = .ok (.new 82, 3) := by decide +kernel
theorem dX7_ofPiece_17 : decode cX7_ofPiece 17 = .ok (.dup, 1) := by decide +kernel
theorem dX7_ofPiece_18 : decode cX7_ofPiece 18 = .ok (.ldc 172, 2) := by decide +kernel
theorem dX7_ofPiece_20 : decode cX7_ofPiece 20 = .ok (.invokespecial 86, 3) := by decide +kernel
theorem dX7_ofPiece_23 : decode cX7_ofPiece 23 = .ok (.athrow, 1) := by decide +kernel
theorem dX7_ofPiece_24 : decode cX7_ofPiece 24 = .ok (.iload_n 2, 1) := by decide +kernel
theorem dX7_ofPiece_25 : decode cX7_ofPiece 25 = .ok (.bipush 7, 2) := by decide +kernel
theorem dX7_ofPiece_27 : decode cX7_ofPiece 27 = .ok (.invokestatic 74, 3) := by decide +kernel
theorem dX7_ofPiece_30 : decode cX7_ofPiece 30 = .ok (.ifCond .ne 13, 3) := by decide +kernel
theorem dX7_ofPiece_33 : decode cX7_ofPiece 33 = .ok (.new 90, 3) := by decide +kernel
theorem dX7_ofPiece_36 : decode cX7_ofPiece 36 = .ok (.dup, 1) := by decide +kernel
theorem dX7_ofPiece_37 : decode cX7_ofPiece 37 = .ok (.ldc 174, 2) := by decide +kernel
theorem dX7_ofPiece_39 : decode cX7_ofPiece 39 = .ok (.invokespecial 94, 3) := by decide +kernel
theorem dX7_ofPiece_42 : decode cX7_ofPiece 42 = .ok (.athrow, 1) := by decide +kernel
theorem dX7_ofPiece_43 : decode cX7_ofPiece 43 = .ok (.aload_n 0, 1) := by decide +kernel
theorem dX7_ofPiece_44 : decode cX7_ofPiece 44 = .ok (.iload_n 1, 1) := by decide +kernel
theorem dX7_ofPiece_45 : decode cX7_ofPiece 45 = .ok (.iload_n 2, 1) := by decide +kernel
theorem dX7_ofPiece_46 : decode cX7_ofPiece 46 = .ok (.invokevirtual 176, 3) := by decide +kernel
theorem dX7_ofPiece_49 : decode cX7_ofPiece 49 = .ok (.ireturn, 1) := by decide +kernel
set_option maxRecDepth 20000 in
theorem ggX7_map_X7_isWithin : GoodIn wsX7_map wsX7_isWithin := goodIn_r _ [8] (by decide +kernel) (by decide +kernel)
set_option maxRecDepth 20000 in
theorem gX7_map_X7_isWithin : GoodIn wsX7_map (va_wsS RX7 74 yX7_isWithin wsX7_isWithin) := goodIn_app (goodIn_of _ (by decide +kernel)) ggX7_map_X7_isWithin
set_option maxRecDepth 20000 in
theorem ggX7_map_X7_tellWord : GoodIn wsX7_map wsX7_tellWord := goodIn_r _ [12, 13, 14, 15, 16, 17, 18, 19, 20, 21, 22, 23, 24, 25, 26, 27, 28, 29, 30, 31, 32, 33, 34, 35] (by decide +kernel) (by decide +kernel)
set_option maxRecDepth 20000 in
theorem gX7_map_X7_tellWord : GoodIn wsX7_map (wsV RX7 186 RX7 yX7_tellWord wsX7_tellWord) := goodIn_app (goodIn_of _ (by decide +kernel)) ggX7_map_X7_tellWord
theorem dX7_map_0 : decode cX7_map 0 = .ok (.iload_n 1, 1) := by decide +kernel
theorem dX7_map_1 : decode cX7_map 1 = .ok (.sipush 200, 3) := by decide +kernel
theorem dX7_map_4 : decode cX7_map 4 = .ok (.invokestatic 74, 3) := by decide +kernel
theorem dX7_map_7 : decode cX7_map 7 = .ok (.ifCond .ne 13, 3) := by decide +kernel
theorem dX7_map_10 : decode cX7_map 10 = .ok (.new 82, 3) := by decide +kernel
theorem dX7_map_13 : decode cX7_map 13 = .ok (.dup, 1) := by decide +kernel
theorem dX7_map_14 : decode cX7_map 14 = .ok (.ldc 184, 2) := by decide +kernel
theorem dX7_map_16 : decode cX7_map 16 = .ok (.invokespecial 86, 3) := by decide +kernel
theorem dX7_map_19 : decode cX7_map 19 = .ok (.athrow, 1) := by decide +kernel
theorem dX7_map_20 : decode cX7_map 20 = .ok (.iload_n 2, 1) := by decide +kernel
theorem dX7_map_21 : decode cX7_map 21 = .ok (.iconst 2, 1) := by decide +kernel
theorem dX7_map_22 : decode cX7_map 22 = .ok (.invokestatic 74, 3) := by decide +kernel
theorem dX7_map_25 : decode cX7_map 25 = .ok (.ifCond .ne 13, 3) := by decide +kernel
theorem dX7_map_28 : decode cX7_map 28 = .ok (.new 90, 3) := by decide +kernel
theorem dX7_map_31 : decode cX7_map 31 = .ok (.dup, 1) := by decide +kernel
theorem dX7_map_32 : decode cX7_map 32 = .ok (.ldc 159, 2) := by decide +kernel
theorem dX7_map_34 : decode cX7_map 34 = .ok (.invokespecial 94, 3) := by decide +kernel
theorem dX7_map_37 : decode cX7_map 37 = .ok (.athrow, 1) := by decide +kernel
theorem dX7_map_38 : decode cX7_map 38 = .ok (.aload_n 0, 1) := by decide +kernel
theorem dX7_map_39 : decode cX7_map 39 = .ok (.iload_n 1, 1) := by decide +kernel
theorem dX7_map_40 : decode cX7_map 40 = .ok (.iload_n 2, 1) := by decide +kernel
theorem dX7_map_41 : decode cX7_map 41 = .ok (.invokevirtual 186, 3) := by decide +kernel
theorem dX7_map_44 : decode cX7_map 44 = .ok (.ireturn, 1) := by decide +kernel
set_option maxRecDepth 20000 in
theorem ggX7_many_X7_isWithin : GoodIn wsX7_many wsX7_isWithin := goodIn_r _ [6] (by decide +kernel) (by decide +kernel)
set_option maxRecDepth 20000 in
theorem gX7_many_X7_isWithin : GoodIn wsX7_many (va_wsS RX7 74 yX7_isWithin wsX7_isWithin) := goodIn_app (goodIn_of _ (by decide +kernel)) ggX7_many_X7_isWithin
set_option maxRecDepth 20000 in
theorem ggX7_many_X7_tellMany : GoodIn wsX7_many wsX7_tellMany := goodIn_r _ [10, 11, 12, 13, 14, 15, 16, 17, 18, 19, 20, 21, 22, 23, 24, 25, 26, 27, 28, 29, 30, 31, 32, 33, 34, 35, 36, 37, 38, 39, 40, 41, 42, 43, 44, 45, 46, 47, 48, 49, 50, 51, 52, 53, 54, 55, 56, 57, 58, 59, 60, 61, 62, 63, 64, 65, 66, 67, 68, 69, 70, 71, 72, 73, 74, 75, 76, 77, 78, 79, 80, 81, 82, 83, 84, 85] (by decide +kernel) (by decide +kernel)
set_option maxRecDepth 20000 in
theorem gX7_many_X7_tellMany : GoodIn wsX7_many (wsV RX7 191 RX7 yX7_tellMany wsX7_tellMany) := goodIn_app (goodIn_of _ (by decide +kernel)) ggX7_many_X7_tellMany
theorem dX7_many_0 : decode cX7_many 0 = .ok (.iload_n 1, 1) := by decide +kernel
theorem dX7_many_1 : decode cX7_many 1 = .ok (.bipush 10, 2) := by decide +kernel
theorem dX7_many_3 : decode cX7_many 3 = .ok (.invokestatic 74, 3) := by decide +kernel
theorem dX7_many_6 : decode cX7_many 6 = .ok (.ifCond .ne 13, 3) := by decide +kernel
theorem dX7_many_9 : decode cX7_many 9 = .ok (.new 90, 3) := by decide +kernel
theorem dX7_many_12 : decode cX7_many 12 = .ok (.dup, 1) := by decide +kernel
theorem dX7_many_13 : decode cX7_many 13 = .ok (.ldc 189, 2) := by decide +kernel
theorem dX7_many_15 : decode cX7_many 15 = .ok (.invokespecial 94, 3) := by decide +kernel
theorem dX7_many_18 : decode cX7_many 18 = .ok (.athrow, 1) := by decide +kernel
theorem dX7_many_19 : decode cX7_many 19 = .ok (.aload_n 0, 1) := by decide +kernel
theorem dX7_many_20 : decode cX7_many 20 = .ok (.iload_n 1, 1) := by decide +kernel
theorem dX7_many_21 : decode cX7_many 21 = .ok (.invokevirtual 191, 3) := by decide +kernel
theorem dX7_many_24 : decode cX7_many 24 = .ok (.ireturn, 1) := by decide +kernel
set_option maxRecDepth 20000 in
theorem ggX7_run_X7_isSymbol : GoodIn wsX7_run wsX7_isSymbol := goodIn_r _ [12, 13, 14, 11, 15] (by decide +kernel) (by decide +kernel)
set_option maxRecDepth 20000 in
theorem gX7_run_X7_isSymbol : GoodIn wsX7_run (va_wsS RX7 78 yX7_isSymbol wsX7_isSymbol) := goodIn_app (goodIn_of _ (by decide +kernel)) ggX7_run_X7_isSymbol
set_option maxRecDepth 20000 in
theorem ggX7_run_X7_isStanding : GoodIn wsX7_run wsX7_isStanding := goodIn_r _ [19, 6, 7, 8, 20, 21, 22, 23, 24, 25, 81, 82, 83, 84, 85, 86, 87, 88, 89, 90, 91, 92, 93, 94, 95, 96, 97, 98, 99, 100] (by decide +kernel) (by decide +kernel)
set_option maxRecDepth 20000 in
theorem gX7_run_X7_isStanding : GoodIn wsX7_run (wsV RX7 194 RX7 yX7_isStanding wsX7_isStanding) := goodIn_app (goodIn_of _ (by decide +kernel)) ggX7_run_X7_isStanding
set_option maxRecDepth 20000 in
theorem ggX7_run_X7_isHeld : GoodIn wsX7_run wsX7_isHeld := goodIn_r _ [29, 30, 31, 32, 20, 21, 22, 23, 24, 25, 33, 34, 35, 36, 37, 38, 39, 40, 41, 42, 43, 44, 45, 46, 81, 82, 83, 84, 85, 86, 87, 88, 100, 101, 102, 103, 104, 105, 106, 107, 108, 109, 110, 111, 112, 113, 114] (by decide +kernel) (by decide +kernel)
set_option maxRecDepth 20000 in
theorem gX7_run_X7_isHeld : GoodIn wsX7_run (wsV RX7 197 RX7 yX7_isHeld wsX7_isHeld) := goodIn_app (goodIn_of _ (by decide +kernel)) ggX7_run_X7_isHeld
set_option maxRecDepth 20000 in
theorem ggX7_run_X5_count : GoodIn wsX7_run wsX5_count := goodIn_r _ [51, 52, 53, 54, 55, 23, 56, 25, 115, 116, 100] (by decide +kernel) (by decide +kernel)
set_option maxRecDepth 20000 in
theorem gX7_run_X5_count : GoodIn wsX7_run (wsV RX7 136 RX5 yX5_count wsX5_count) := goodIn_app (goodIn_of _ (by decide +kernel)) ggX7_run_X5_count
set_option maxRecDepth 20000 in
theorem ggX7_run_X5_firstFree : GoodIn wsX7_run wsX5_firstFree := goodIn_r _ [60, 61, 62, 63, 50, 64, 52, 65, 21, 22, 23, 24, 25, 115, 116, 100] (by decide +kernel) (by decide +kernel)
set_option maxRecDepth 20000 in
theorem gX7_run_X5_firstFree : GoodIn wsX7_run (wsV RX7 202 RX5 yX5_firstFree wsX5_firstFree) := goodIn_app (goodIn_of _ (by decide +kernel)) ggX7_run_X5_firstFree
set_option maxRecDepth 20000 in
theorem ggX7_run_X4_get : GoodIn wsX7_run wsX4_get := goodIn_r _ [24, 25, 100] (by decide +kernel) (by decide +kernel)
set_option maxRecDepth 20000 in
theorem gX7_run_X4_get : GoodIn wsX7_run (wsV RX7 109 RX4 yX4_get wsX4_get) := goodIn_app (goodIn_of _ (by decide +kernel)) ggX7_run_X4_get
set_option maxRecDepth 20000 in
theorem ggX7_run_X5_push : GoodIn wsX7_run wsX5_push := goodIn_r _ [69, 70, 52, 65, 21, 22, 23, 24, 25, 71, 72, 73, 74, 75, 76, 77, 78, 79, 80, 115, 116, 100] (by decide +kernel) (by decide +kernel)
set_option maxRecDepth 20000 in
theorem gX7_run_X5_push : GoodIn wsX7_run (wsV RX7 208 RX5 yX5_push wsX5_push) := goodIn_app (goodIn_of _ (by decide +kernel)) ggX7_run_X5_push
theorem dX7_run_0 : decode cX7_run 0 = .ok (.iload_n 1, 1) := by decide +kernel
theorem dX7_run_1 : decode cX7_run 1 = .ok (.invokestatic 78, 3) := by decide +kernel
theorem dX7_run_4 : decode cX7_run 4 = .ok (.ifCond .ne 13, 3) := by decide +kernel
theorem dX7_run_7 : decode cX7_run 7 = .ok (.new 82, 3) := by decide +kernel
theorem dX7_run_10 : decode cX7_run 10 = .ok (.dup, 1) := by decide +kernel
theorem dX7_run_11 : decode cX7_run 11 = .ok (.ldc 165, 2) := by decide +kernel
theorem dX7_run_13 : decode cX7_run 13 = .ok (.invokespecial 86, 3) := by decide +kernel
theorem dX7_run_16 : decode cX7_run 16 = .ok (.athrow, 1) := by decide +kernel
theorem dX7_run_17 : decode cX7_run 17 = .ok (.aload_n 0, 1) := by decide +kernel
theorem dX7_run_18 : decode cX7_run 18 = .ok (.iload_n 1, 1) := by decide +kernel
theorem dX7_run_19 : decode cX7_run 19 = .ok (.invokevirtual 194, 3) := by decide +kernel
theorem dX7_run_22 : decode cX7_run 22 = .ok (.ifCond .eq 22, 3) := by decide +kernel
theorem dX7_run_25 : decode cX7_run 25 = .ok (.aload_n 0, 1) := by decide +kernel
theorem dX7_run_26 : decode cX7_run 26 = .ok (.iload_n 1, 1) := by decide +kernel
theorem dX7_run_27 : decode cX7_run 27 = .ok (.invokevirtual 197, 3) := by decide +kernel
theorem dX7_run_30 : decode cX7_run 30 = .ok (.ifCond .ne 14, 3) := by decide +kernel
theorem dX7_run_33 : decode cX7_run 33 = .ok (.aload_n 0, 1) := by decide +kernel
theorem dX7_run_34 : decode cX7_run 34 = .ok (.getfield 36, 3) := by decide +kernel
theorem dX7_run_37 : decode cX7_run 37 = .ok (.invokevirtual 136, 3) := by decide +kernel
theorem dX7_run_40 : decode cX7_run 40 = .ok (.iconst 4, 1) := by decide +kernel
theorem dX7_run_41 : decode cX7_run 41 = .ok (.if_icmp .lt 13, 3) := by decide +kernel
theorem dX7_run_44 : decode cX7_run 44 = .ok (.new 63, 3) := by decide +kernel
theorem dX7_run_47 : decode cX7_run 47 = .ok (.dup, 1) := by decide +kernel
theorem dX7_run_48 : decode cX7_run 48 = .ok (.ldc 200, 2) := by decide +kernel
theorem dX7_run_50 : decode cX7_run 50 = .ok (.invokespecial 67, 3) := by decide +kernel
theorem dX7_run_53 : decode cX7_run 53 = .ok (.athrow, 1) := by decide +kernel
theorem dX7_run_54 : decode cX7_run 54 = .ok (.aload_n 0, 1) := by decide +kernel
theorem dX7_run_55 : decode cX7_run 55 = .ok (.getfield 36, 3) := by decide +kernel
theorem dX7_run_58 : decode cX7_run 58 = .ok (.invokevirtual 202, 3) := by decide +kernel
theorem dX7_run_61 : decode cX7_run 61 = .ok (.istore_n 2, 1) := by decide +kernel
theorem dX7_run_62 : decode cX7_run 62 = .ok (.aload_n 0, 1) := by decide +kernel
theorem dX7_run_63 : decode cX7_run 63 = .ok (.getfield 36, 3) := by decide +kernel
theorem dX7_run_66 : decode cX7_run 66 = .ok (.iload_n 2, 1) := by decide +kernel
theorem dX7_run_67 : decode cX7_run 67 = .ok (.aload_n 0, 1) := by decide +kernel
theorem dX7_run_68 : decode cX7_run 68 = .ok (.getfield 26, 3) := by decide +kernel
theorem dX7_run_71 : decode cX7_run 71 = .ok (.getfield 116, 3) := by decide +kernel
theorem dX7_run_74 : decode cX7_run 74 = .ok (.getfield 205, 3) := by decide +kernel
theorem dX7_run_77 : decode cX7_run 77 = .ok (.iload_n 1, 1) := by decide +kernel
theorem dX7_run_78 : decode cX7_run 78 = .ok (.invokevirtual 109, 3) := by decide +kernel
theorem dX7_run_81 : decode cX7_run 81 = .ok (.invokevirtual 208, 3) := by decide +kernel
theorem dX7_run_84 : decode cX7_run 84 = .ok (.iload_n 2, 1) := by decide +kernel
theorem dX7_run_85 : decode cX7_run 85 = .ok (.ireturn, 1) := by decide +kernel
set_option maxRecDepth 20000 in
theorem ggX7_call_X5_isThere : GoodIn wsX7_call wsX5_isThere := goodIn_r _ [16, 17, 18, 19, 20, 21, 22, 23, 98, 99, 111] (by decide +kernel) (by decide +kernel)
set_option maxRecDepth 20000 in
theorem gX7_call_X5_isThere : GoodIn wsX7_call (wsV RX7 211 RX5 yX5_isThere wsX5_isThere) := goodIn_app (goodIn_of _ (by decide +kernel)) ggX7_call_X5_isThere
set_option maxRecDepth 20000 in
theorem ggX7_call_X5_top : GoodIn wsX7_call wsX5_top := goodIn_r _ [27, 17, 28, 13, 14, 15, 16, 18, 19, 20, 21, 22, 23, 29, 30, 31, 32, 33, 98, 99, 111] (by decide +kernel) (by decide +kernel)
set_option maxRecDepth 20000 in
theorem gX7_call_X5_top : GoodIn wsX7_call (wsV RX7 214 RX5 yX5_top wsX5_top) := goodIn_app (goodIn_of _ (by decide +kernel)) ggX7_call_X5_top
set_option maxRecDepth 20000 in
theorem ggX7_call_X4_get : GoodIn wsX7_call wsX4_get := goodIn_r _ [22, 23, 111] (by decide +kernel) (by decide +kernel)
set_option maxRecDepth 20000 in
theorem gX7_call_X4_get : GoodIn wsX7_call (wsV RX7 109 RX4 yX4_get wsX4_get) := goodIn_app (goodIn_of _ (by decide +kernel)) ggX7_call_X4_get
set_option maxRecDepth 20000 in
theorem ggX7_call_X7_isWithin : GoodIn wsX7_call wsX7_isWithin := goodIn_r _ [38] (by decide +kernel) (by decide +kernel)
set_option maxRecDepth 20000 in
theorem gX7_call_X7_isWithin : GoodIn wsX7_call (va_wsS RX7 74 yX7_isWithin wsX7_isWithin) := goodIn_app (goodIn_of _ (by decide +kernel)) ggX7_call_X7_isWithin
set_option maxRecDepth 20000 in
theorem ggX7_call_X6_target : GoodIn wsX7_call wsX6_target := goodIn_r _ [43, 44, 45, 19, 20, 21, 22, 23, 88, 89, 90, 91, 92, 93, 94, 95, 96, 97, 111] (by decide +kernel) (by decide +kernel)
set_option maxRecDepth 20000 in
theorem gX7_call_X6_target : GoodIn wsX7_call (wsV RX7 219 RX6 yX6_target wsX6_target) := goodIn_app (goodIn_of _ (by decide +kernel)) ggX7_call_X6_target
set_option maxRecDepth 20000 in
theorem ggX7_call_X7_isHeld : GoodIn wsX7_call wsX7_isHeld := goodIn_r _ [49, 50, 51, 6, 34, 19, 20, 21, 22, 23, 52, 53, 54, 55, 56, 57, 58, 59, 60, 61, 62, 63, 64, 65, 80, 81, 82, 83, 84, 85, 86, 87, 111, 112, 113, 114, 115, 88, 89, 90, 91, 92, 93, 94, 95, 96, 97] (by decide +kernel) (by decide +kernel)
set_option maxRecDepth 20000 in
theorem gX7_call_X7_isHeld : GoodIn wsX7_call (wsV RX7 197 RX7 yX7_isHeld wsX7_isHeld) := goodIn_app (goodIn_of _ (by decide +kernel)) ggX7_call_X7_isHeld
set_option maxRecDepth 20000 in
theorem ggX7_call_X5_push : GoodIn wsX7_call wsX5_push := goodIn_r _ [69, 33, 17, 18, 19, 20, 21, 22, 23, 70, 71, 72, 73, 74, 75, 76, 77, 78, 79, 98, 99, 111] (by decide +kernel) (by decide +kernel)
set_option maxRecDepth 20000 in
theorem gX7_call_X5_push : GoodIn wsX7_call (wsV RX7 208 RX5 yX5_push wsX5_push) := goodIn_app (goodIn_of _ (by decide +kernel)) ggX7_call_X5_push
theorem dX7_call_0 : decode cX7_call 0 = .ok (.aload_n 0, 1) := by decide +kernel
theorem dX7_call_1 : decode cX7_call 1 = .ok (.getfield 36, 3) := by decide +kernel
theorem dX7_call_4 : decode cX7_call 4 = .ok (.iload_n 1, 1) := by decide +kernel
theorem dX7_call_5 : decode cX7_call 5 = .ok (.invokevirtual 211, 3) := by decide +kernel
theorem dX7_call_8 : decode cX7_call 8 = .ok (.ifCond .eq 28, 3) := by decide +kernel
theorem dX7_call_11 : decode cX7_call 11 = .ok (.iload_n 2, 1) := by decide +kernel
theorem dX7_call_12 : decode cX7_call 12 = .ok (.aload_n 0, 1) := by decide +kernel
theorem dX7_call_13 : decode cX7_call 13 = .ok (.getfield 12, 3) := by decide +kernel
theorem dX7_call_16 : decode cX7_call 16 = .ok (.getfield 106, 3) := by decide +kernel
theorem dX7_call_19 : decode cX7_call 19 = .ok (.aload_n 0, 1) := by decide +kernel
theorem dX7_call_20 : decode cX7_call 20 = .ok (.getfield 36, 3) := by decide +kernel
theorem dX7_call_23 : decode cX7_call 23 = .ok (.iload_n 1, 1) := by decide +kernel
theorem dX7_call_24 : decode cX7_call 24 = .ok (.invokevirtual 214, 3) := by decide +kernel
theorem dX7_call_27 : decode cX7_call 27 = .ok (.invokevirtual 109, 3) := by decide +kernel
theorem dX7_call_30 : decode cX7_call 30 = .ok (.invokestatic 74, 3) := by decide +kernel
theorem dX7_call_33 : decode cX7_call 33 = .ok (.ifCond .ne 13, 3) := by decide +kernel
theorem dX7_call_36 : decode cX7_call 36 = .ok (.new 82, 3) := by decide +kernel
theorem dX7_call_39 : decode cX7_call 39 = .ok (.dup, 1) := by decide +kernel
theorem dX7_call_40 : decode cX7_call 40 = .ok (.ldc 217, 2) := by decide +kernel
theorem dX7_call_42 : decode cX7_call 42 = .ok (.invokespecial 86, 3) := by decide +kernel
theorem dX7_call_45 : decode cX7_call 45 = .ok (.athrow, 1) := by decide +kernel
theorem dX7_call_46 : decode cX7_call 46 = .ok (.aload_n 0, 1) := by decide +kernel
theorem dX7_call_47 : decode cX7_call 47 = .ok (.getfield 12, 3) := by decide +kernel
theorem dX7_call_50 : decode cX7_call 50 = .ok (.aload_n 0, 1) := by decide +kernel
theorem dX7_call_51 : decode cX7_call 51 = .ok (.getfield 36, 3) := by decide +kernel
theorem dX7_call_54 : decode cX7_call 54 = .ok (.iload_n 1, 1) := by decide +kernel
theorem dX7_call_55 : decode cX7_call 55 = .ok (.invokevirtual 214, 3) := by decide +kernel
theorem dX7_call_58 : decode cX7_call 58 = .ok (.iload_n 2, 1) := by decide +kernel
theorem dX7_call_59 : decode cX7_call 59 = .ok (.invokevirtual 219, 3) := by decide +kernel
theorem dX7_call_62 : decode cX7_call 62 = .ok (.istore_n 3, 1) := by decide +kernel
theorem dX7_call_63 : decode cX7_call 63 = .ok (.aload_n 0, 1) := by decide +kernel
theorem dX7_call_64 : decode cX7_call 64 = .ok (.getfield 36, 3) := by decide +kernel
theorem dX7_call_67 : decode cX7_call 67 = .ok (.getfield 222, 3) := by decide +kernel
theorem dX7_call_70 : decode cX7_call 70 = .ok (.iload_n 1, 1) := by decide +kernel
theorem dX7_call_71 : decode cX7_call 71 = .ok (.invokevirtual 109, 3) := by decide +kernel
theorem dX7_call_74 : decode cX7_call 74 = .ok (.bipush 8, 2) := by decide +kernel
theorem dX7_call_76 : decode cX7_call 76 = .ok (.if_icmp .ge 11, 3) := by decide +kernel
theorem dX7_call_79 : decode cX7_call 79 = .ok (.aload_n 0, 1) := by decide +kernel
theorem dX7_call_80 : decode cX7_call 80 = .ok (.iload_n 3, 1) := by decide +kernel
theorem dX7_call_81 : decode cX7_call 81 = .ok (.invokevirtual 197, 3) := by decide +kernel
theorem dX7_call_84 : decode cX7_call 84 = .ok (.ifCond .eq 13, 3) := by decide +kernel
theorem dX7_call_87 : decode cX7_call 87 = .ok (.new 63, 3) := by decide +kernel
theorem dX7_call_90 : decode cX7_call 90 = .ok (.dup, 1) := by decide +kernel
theorem dX7_call_91 : decode cX7_call 91 = .ok (.ldc 225, 2) := by decide +kernel
theorem dX7_call_93 : decode cX7_call 93 = .ok (.invokespecial 67, 3) := by decide +kernel
theorem dX7_call_96 : decode cX7_call 96 = .ok (.athrow, 1) := by decide +kernel
theorem dX7_call_97 : decode cX7_call 97 = .ok (.aload_n 0, 1) := by decide +kernel
theorem dX7_call_98 : decode cX7_call 98 = .ok (.getfield 36, 3) := by decide +kernel
theorem dX7_call_101 : decode cX7_call 101 = .ok (.iload_n 1, 1) := by decide +kernel
theorem dX7_call_102 : decode cX7_call 102 = .ok (.aload_n 0, 1) := by decide +kernel
theorem dX7_call_103 : decode cX7_call 103 = .ok (.getfield 26, 3) := by decide +kernel
theorem dX7_call_106 : decode cX7_call 106 = .ok (.getfield 116, 3) := by decide +kernel
theorem dX7_call_109 : decode cX7_call 109 = .ok (.getfield 205, 3) := by decide +kernel
theorem dX7_call_112 : decode cX7_call 112 = .ok (.iload_n 3, 1) := by decide +kernel
theorem dX7_call_113 : decode cX7_call 113 = .ok (.invokevirtual 109, 3) := by decide +kernel
theorem dX7_call_116 : decode cX7_call 116 = .ok (.invokevirtual 208, 3) := by decide +kernel
theorem dX7_call_119 : decode cX7_call 119 = .ok (.aload_n 0, 1) := by decide +kernel
theorem dX7_call_120 : decode cX7_call 120 = .ok (.getfield 36, 3) := by decide +kernel
theorem dX7_call_123 : decode cX7_call 123 = .ok (.iload_n 1, 1) := by decide +kernel
theorem dX7_call_124 : decode cX7_call 124 = .ok (.invokevirtual 214, 3) := by decide +kernel
theorem dX7_call_127 : decode cX7_call 127 = .ok (.ireturn, 1) := by decide +kernel
set_option maxRecDepth 20000 in
theorem ggX7_back_X5_isThere : GoodIn wsX7_back wsX5_isThere := goodIn_r _ [8, 9, 10, 11, 12, 13, 14, 15, 193, 194, 195] (by decide +kernel) (by decide +kernel)
set_option maxRecDepth 20000 in
theorem gX7_back_X5_isThere : GoodIn wsX7_back (wsV RX7 211 RX5 yX5_isThere wsX5_isThere) := goodIn_app (goodIn_of _ (by decide +kernel)) ggX7_back_X5_isThere
set_option maxRecDepth 20000 in
theorem ggX7_back_X5_pop : GoodIn wsX7_back wsX5_pop := goodIn_r _ [19, 9, 20, 21, 22, 13, 23, 24, 11, 12, 14, 15, 25, 26, 27, 28, 193, 194, 195] (by decide +kernel) (by decide +kernel)
set_option maxRecDepth 20000 in
theorem gX7_back_X5_pop : GoodIn wsX7_back (wsV RX7 229 RX5 yX5_pop wsX5_pop) := goodIn_app (goodIn_of _ (by decide +kernel)) ggX7_back_X5_pop
set_option maxRecDepth 20000 in
theorem ggX7_back_X7_carryOutPatches : GoodIn wsX7_back wsX7_carryOutPatches := goodIn_r _ [33, 34, 35, 36, 37, 38, 32, 39, 40, 41, 42, 43, 44, 45, 46, 47, 11, 12, 13, 14, 15, 48, 49, 50, 51, 52, 53, 54, 55, 56, 57, 58, 59, 60, 61, 62, 63, 3, 64, 65, 66, 67, 68, 69, 70, 71, 72, 73, 74, 7, 75, 76, 77, 78, 79, 9, 80, 10, 81, 82, 83, 84, 85, 86, 87, 88, 89, 90, 91, 92, 93, 94, 95, 96, 97, 98, 99, 100, 101, 102, 103, 104, 105, 106, 107, 108, 109, 110, 111, 112, 113, 114, 115, 116, 117, 118, 119, 120, 121, 122, 123, 124, 125, 126, 127, 128, 129, 130, 26, 27, 28, 131, 132, 133, 134, 135, 136, 137, 138, 139, 140, 141, 142, 143, 144, 145, 146, 147, 148, 149, 150, 151, 152, 153, 154, 155, 156, 157, 158, 159, 160, 161, 162, 163, 164, 165, 166, 167, 168, 169, 170, 171, 172, 173, 174, 175, 185, 186, 187, 188, 189, 190, 191, 192, 196, 197, 198, 199, 195, 200, 201, 202, 203, 204, 205, 206, 207, 208, 209, 210, 211, 212, 213, 214, 215, 216, 217, 218, 219, 220, 193, 194] (by decide +kernel) (by decide +kernel)
set_option maxRecDepth 20000 in
theorem gX7_back_X7_carryOutPatches : GoodIn wsX7_back (wsV RX7 233 RX7 yX7_carryOutPatches wsX7_carryOutPatches) := goodIn_app (goodIn_of _ (by decide +kernel)) ggX7_back_X7_carryOutPatches
set_option maxRecDepth 20000 in
theorem ggX7_back_X5_top : GoodIn wsX7_back wsX5_top := goodIn_r _ [179, 9, 180, 5, 6, 7, 8, 10, 11, 12, 13, 14, 15, 181, 182, 183, 184, 80, 193, 194, 195] (by decide +kernel) (by decide +kernel)
set_option maxRecDepth 20000 in
theorem gX7_back_X5_top : GoodIn wsX7_back (wsV RX7 214 RX5 yX5_top wsX5_top) := goodIn_app (goodIn_of _ (by decide +kernel)) ggX7_back_X5_top
theorem dX7_back_0 : decode cX7_back 0 = .ok (.aload_n 0, 1) := by decide +kernel
theorem dX7_back_1 : decode cX7_back 1 = .ok (.getfield 36, 3) := by decide +kernel
theorem dX7_back_4 : decode cX7_back 4 = .ok (.iload_n 1, 1) := by decide +kernel
theorem dX7_back_5 : decode cX7_back 5 = .ok (.invokevirtual 211, 3) := by decide +kernel
theorem dX7_back_8 : decode cX7_back 8 = .ok (.ifCond .ne 13, 3) := by decide +kernel
theorem dX7_back_11 : decode cX7_back 11 = .ok (.new 82, 3) := by decide +kernel
theorem dX7_back_14 : decode cX7_back 14 = .ok (.dup, 1) := by decide +kernel
theorem dX7_back_15 : decode cX7_back 15 = .ok (.ldc 227, 2) := by decide +kernel
theorem dX7_back_17 : decode cX7_back 17 = .ok (.invokespecial 86, 3) := by decide +kernel
theorem dX7_back_20 : decode cX7_back 20 = .ok (.athrow, 1) := by decide +kernel
theorem dX7_back_21 : decode cX7_back 21 = .ok (.aload_n 0, 1) := by decide +kernel
theorem dX7_back_22 : decode cX7_back 22 = .ok (.getfield 36, 3) := by decide +kernel
theorem dX7_back_25 : decode cX7_back 25 = .ok (.iload_n 1, 1) := by decide +kernel
theorem dX7_back_26 : decode cX7_back 26 = .ok (.invokevirtual 229, 3) := by decide +kernel
theorem dX7_back_29 : decode cX7_back 29 = .ok (.aload_n 0, 1) := by decide +kernel
theorem dX7_back_30 : decode cX7_back 30 = .ok (.invokevirtual 233, 3) := by decide +kernel
theorem dX7_back_33 : decode cX7_back 33 = .ok (.aload_n 0, 1) := by decide +kernel
theorem dX7_back_34 : decode cX7_back 34 = .ok (.getfield 36, 3) := by decide +kernel
theorem dX7_back_37 : decode cX7_back 37 = .ok (.iload_n 1, 1) := by decide +kernel
theorem dX7_back_38 : decode cX7_back 38 = .ok (.invokevirtual 214, 3) := by decide +kernel
theorem dX7_back_41 : decode cX7_back 41 = .ok (.ireturn, 1) := by decide +kernel
set_option maxRecDepth 20000 in
theorem ggX7_stack_X5_isThere : GoodIn wsX7_stack wsX5_isThere := goodIn_r _ [9, 10, 11, 12, 13, 14, 15, 16, 35, 36, 37] (by decide +kernel) (by decide +kernel)
set_option maxRecDepth 20000 in
theorem gX7_stack_X5_isThere : GoodIn wsX7_stack (wsV RX7 211 RX5 yX5_isThere wsX5_isThere) := goodIn_app (goodIn_of _ (by decide +kernel)) ggX7_stack_X5_isThere
set_option maxRecDepth 20000 in
theorem ggX7_stack_X4_get : GoodIn wsX7_stack wsX4_get := goodIn_r _ [15, 16, 37] (by decide +kernel) (by decide +kernel)
set_option maxRecDepth 20000 in
theorem gX7_stack_X4_get : GoodIn wsX7_stack (wsV RX7 109 RX4 yX4_get wsX4_get) := goodIn_app (goodIn_of _ (by decide +kernel)) ggX7_stack_X4_get
set_option maxRecDepth 20000 in
theorem ggX7_stack_X7_isWithin : GoodIn wsX7_stack wsX7_isWithin := goodIn_r _ [21] (by decide +kernel) (by decide +kernel)
set_option maxRecDepth 20000 in
theorem gX7_stack_X7_isWithin : GoodIn wsX7_stack (va_wsS RX7 74 yX7_isWithin wsX7_isWithin) := goodIn_app (goodIn_of _ (by decide +kernel)) ggX7_stack_X7_isWithin
set_option maxRecDepth 20000 in
theorem ggX7_stack_X5_entry : GoodIn wsX7_stack wsX5_entry := goodIn_r _ [25, 26, 11, 12, 13, 14, 15, 16, 35, 36, 37] (by decide +kernel) (by decide +kernel)
set_option maxRecDepth 20000 in
theorem gX7_stack_X5_entry : GoodIn wsX7_stack (wsV RX7 238 RX5 yX5_entry wsX5_entry) := goodIn_app (goodIn_of _ (by decide +kernel)) ggX7_stack_X5_entry
theorem dX7_stack_0 : decode cX7_stack 0 = .ok (.aload_n 0, 1) := by decide +kernel
theorem dX7_stack_1 : decode cX7_stack 1 = .ok (.getfield 36, 3) := by decide +kernel
theorem dX7_stack_4 : decode cX7_stack 4 = .ok (.iload_n 1, 1) := by decide +kernel
theorem dX7_stack_5 : decode cX7_stack 5 = .ok (.invokevirtual 211, 3) := by decide +kernel
theorem dX7_stack_8 : decode cX7_stack 8 = .ok (.ifCond .eq 21, 3) := by decide +kernel
theorem dX7_stack_11 : decode cX7_stack 11 = .ok (.iload_n 2, 1) := by decide +kernel
theorem dX7_stack_12 : decode cX7_stack 12 = .ok (.aload_n 0, 1) := by decide +kernel
theorem dX7_stack_13 : decode cX7_stack 13 = .ok (.getfield 36, 3) := by decide +kernel
theorem dX7_stack_16 : decode cX7_stack 16 = .ok (.getfield 222, 3) := by decide +kernel
theorem dX7_stack_19 : decode cX7_stack 19 = .ok (.iload_n 1, 1) := by decide +kernel
theorem dX7_stack_20 : decode cX7_stack 20 = .ok (.invokevirtual 109, 3) := by decide +kernel
theorem dX7_stack_23 : decode cX7_stack 23 = .ok (.invokestatic 74, 3) := by decide +kernel
theorem dX7_stack_26 : decode cX7_stack 26 = .ok (.ifCond .ne 13, 3) := by decide +kernel
theorem dX7_stack_29 : decode cX7_stack 29 = .ok (.new 82, 3) := by decide +kernel
theorem dX7_stack_32 : decode cX7_stack 32 = .ok (.dup, 1) := by decide +kernel
theorem dX7_stack_33 : decode cX7_stack 33 = .ok (.ldc 236, 2) := by decide +kernel
theorem dX7_stack_35 : decode cX7_stack 35 = .ok (.invokespecial 86, 3) := by decide +kernel
theorem dX7_stack_38 : decode cX7_stack 38 = .ok (.athrow, 1) := by decide +kernel
theorem dX7_stack_39 : decode cX7_stack 39 = .ok (.aload_n 0, 1) := by decide +kernel
theorem dX7_stack_40 : decode cX7_stack 40 = .ok (.getfield 36, 3) := by decide +kernel
theorem dX7_stack_43 : decode cX7_stack 43 = .ok (.iload_n 1, 1) := by decide +kernel
theorem dX7_stack_44 : decode cX7_stack 44 = .ok (.iload_n 2, 1) := by decide +kernel
theorem dX7_stack_45 : decode cX7_stack 45 = .ok (.invokevirtual 238, 3) := by decide +kernel
theorem dX7_stack_48 : decode cX7_stack 48 = .ok (.ireturn, 1) := by decide +kernel
set_option maxRecDepth 20000 in
theorem ggX7_meanStack_X5_count : GoodIn wsX7_meanStack wsX5_count := goodIn_r _ [6, 7, 8, 9, 10, 11, 12, 13, 30, 31, 32] (by decide +kernel) (by decide +kernel)
set_option maxRecDepth 20000 in
theorem gX7_meanStack_X5_count : GoodIn wsX7_meanStack (wsV RX7 136 RX5 yX5_count wsX5_count) := goodIn_app (goodIn_of _ (by decide +kernel)) ggX7_meanStack_X5_count
set_option maxRecDepth 20000 in
theorem ggX7_meanStack_X5_entries : GoodIn wsX7_meanStack wsX5_entries := goodIn_r _ [17, 7, 18, 19, 20, 11, 21, 13, 30, 31, 32] (by decide +kernel) (by decide +kernel)
set_option maxRecDepth 20000 in
theorem gX7_meanStack_X5_entries : GoodIn wsX7_meanStack (wsV RX7 241 RX5 yX5_entries wsX5_entries) := goodIn_app (goodIn_of _ (by decide +kernel)) ggX7_meanStack_X5_entries
theorem dX7_meanStack_0 : decode cX7_meanStack 0 = .ok (.aload_n 0, 1) := by decide +kernel
theorem dX7_meanStack_1 : decode cX7_meanStack 1 = .ok (.getfield 36, 3) := by decide +kernel
theorem dX7_meanStack_4 : decode cX7_meanStack 4 = .ok (.invokevirtual 136, 3) := by decide +kernel
theorem dX7_meanStack_7 : decode cX7_meanStack 7 = .ok (.istore_n 1, 1) := by decide +kernel
theorem dX7_meanStack_8 : decode cX7_meanStack 8 = .ok (.iload_n 1, 1) := by decide +kernel
theorem dX7_meanStack_9 : decode cX7_meanStack 9 = .ok (.ifCond .ne 5, 3) := by decide +kernel
theorem dX7_meanStack_12 : decode cX7_meanStack 12 = .ok (.dconst 0, 1) := by decide +kernel
theorem dX7_meanStack_13 : decode cX7_meanStack 13 = .ok (.dreturn, 1) := by decide +kernel
theorem dX7_meanStack_14 : decode cX7_meanStack 14 = .ok (.aload_n 0, 1) := by decide +kernel
theorem dX7_meanStack_15 : decode cX7_meanStack 15 = .ok (.getfield 36, 3) := by decide +kernel
theorem dX7_meanStack_18 : decode cX7_meanStack 18 = .ok (.invokevirtual 241, 3) := by decide +kernel
theorem dX7_meanStack_21 : decode cX7_meanStack 21 = .ok (.i2d, 1) := by decide +kernel
theorem dX7_meanStack_22 : decode cX7_meanStack 22 = .ok (.iload_n 1, 1) := by decide +kernel
