theorem dX0_init_0 : decode cX0_init 0 = .ok (.aload_n 0, 1) := by decide +kernel
theorem dX0_init_1 : decode cX0_init 1 = .ok (.invokespecial 1, 3) := by decide +kernel
theorem dX0_init_4 : decode cX0_init 4 = .ok (.aload_n 0, 1) := by decide +kernel
theorem dX0_init_5 : decode cX0_init 5 = .ok (.bipush 64, 2) := by decide +kernel
theorem dX0_init_7 : decode cX0_init 7 = .ok (.newarray .int, 2) := by decide +kernel
theorem dX0_init_9 : decode cX0_init 9 = .ok (.putfield 9, 3) := by decide +kernel
theorem dX0_init_12 : decode cX0_init 12 = .ok (.aload_n 0, 1) := by decide +kernel
theorem dX0_init_13 : decode cX0_init 13 = .ok (.ldc 13, 2) := by decide +kernel
theorem dX0_init_15 : decode cX0_init 15 = .ok (.newarray .int, 2) := by decide +kernel
theorem dX0_init_17 : decode cX0_init 17 = .ok (.putfield 14, 3) := by decide +kernel
theorem dX0_init_20 : decode cX0_init 20 = .ok (.aload_n 0, 1) := by decide +kernel
theorem dX0_init_21 : decode cX0_init 21 = .ok (.sipush 1024, 3) := by decide +kernel
theorem dX0_init_24 : decode cX0_init 24 = .ok (.newarray .int, 2) := by decide +kernel
theorem dX0_init_26 : decode cX0_init 26 = .ok (.putfield 17, 3) := by decide +kernel
theorem dX0_init_29 : decode cX0_init 29 = .ok (.aload_n 0, 1) := by decide +kernel
theorem dX0_init_30 : decode cX0_init 30 = .ok (.sipush 512, 3) := by decide +kernel
theorem dX0_init_33 : decode cX0_init 33 = .ok (.newarray .boolean, 2) := by decide +kernel
theorem dX0_init_35 : decode cX0_init 35 = .ok (.putfield 20, 3) := by decide +kernel
theorem dX0_init_38 : decode cX0_init 38 = .ok (.aload_n 0, 1) := by decide +kernel
theorem dX0_init_39 : decode cX0_init 39 = .ok (.ldc 24, 2) := by decide +kernel
theorem dX0_init_41 : decode cX0_init 41 = .ok (.newarray .int, 2) := by decide +kernel
theorem dX0_init_43 : decode cX0_init 43 = .ok (.putfield 25, 3) := by decide +kernel
theorem dX0_init_46 : decode cX0_init 46 = .ok (.aload_n 0, 1) := by decide +kernel
theorem dX0_init_47 : decode cX0_init 47 = .ok (.iconst 4, 1) := by decide +kernel
theorem dX0_init_48 : decode cX0_init 48 = .ok (.newarray .int, 2) := by decide +kernel
theorem dX0_init_50 : decode cX0_init 50 = .ok (.putfield 28, 3) := by decide +kernel
theorem dX0_init_53 : decode cX0_init 53 = .ok (.aload_n 0, 1) := by decide +kernel
theorem dX0_init_54 : decode cX0_init 54 = .ok (.iconst 1, 1) := by decide +kernel
theorem dX0_init_55 : decode cX0_init 55 = .ok (.putfield 31, 3) := by decide +kernel
theorem dX0_init_58 : decode cX0_init 58 = .ok (.aload_n 0, 1) := by decide +kernel
theorem dX0_init_59 : decode cX0_init 59 = .ok (.iconst (-1), 1) := by decide +kernel
theorem dX0_init_60 : decode cX0_init 60 = .ok (.putfield 35, 3) := by decide +kernel
theorem dX0_init_63 : decode cX0_init 63 = .ok (.return_, 1) := by decide +kernel
set_option maxRecDepth 20000 in
theorem ggX0_set_X0_needPower : GoodIn wsX0_set wsX0_needPower := goodIn_ca (goodIn_r _ [6, 7, 8, 9, 15, 16, 17, 18, 19, 20, 21, 22, 23, 24, 25, 26, 27] (by decide +kernel) (by decide +kernel)) (goodIn_sub (fun _ h => List.mem_cons_of_mem _ (List.mem_append_left _ (List.mem_append_right _ h))) (by decide +kernel))
set_option maxRecDepth 20000 in
theorem gX0_set_X0_needPower : GoodIn wsX0_set (wsV RX0 39 RX0 yX0_needPower wsX0_needPower) := goodIn_app (goodIn_of _ (by decide +kernel)) ggX0_set_X0_needPower
set_option maxRecDepth 20000 in
theorem ggX0_set_X0_needIndex : GoodIn wsX0_set wsX0_needIndex := goodIn_ca (goodIn_r _ [12, 13, 14] (by decide +kernel) (by decide +kernel)) (goodIn_sub (fun _ h => List.mem_cons_of_mem _ (List.mem_append_right _ h)) (by decide +kernel))
set_option maxRecDepth 20000 in
theorem gX0_set_X0_needIndex : GoodIn wsX0_set (va_wsS RX0 42 yX0_needIndex wsX0_needIndex) := goodIn_app (goodIn_of _ (by decide +kernel)) ggX0_set_X0_needIndex
theorem dX0_set_0 : decode cX0_set 0 = .ok (.aload_n 0, 1) := by decide +kernel
theorem dX0_set_1 : decode cX0_set 1 = .ok (.invokevirtual 39, 3) := by decide +kernel
theorem dX0_set_4 : decode cX0_set 4 = .ok (.iload_n 1, 1) := by decide +kernel
theorem dX0_set_5 : decode cX0_set 5 = .ok (.bipush 64, 2) := by decide +kernel
theorem dX0_set_7 : decode cX0_set 7 = .ok (.invokestatic 42, 3) := by decide +kernel
theorem dX0_set_10 : decode cX0_set 10 = .ok (.aload_n 0, 1) := by decide +kernel
theorem dX0_set_11 : decode cX0_set 11 = .ok (.getfield 9, 3) := by decide +kernel
theorem dX0_set_14 : decode cX0_set 14 = .ok (.iload_n 1, 1) := by decide +kernel
theorem dX0_set_15 : decode cX0_set 15 = .ok (.iload_n 2, 1) := by decide +kernel
theorem dX0_set_16 : decode cX0_set 16 = .ok (.iastore, 1) := by decide +kernel
theorem dX0_set_17 : decode cX0_set 17 = .ok (.return_, 1) := by decide +kernel
set_option maxRecDepth 20000 in
theorem ggX0_fill_X0_needPower : GoodIn wsX0_fill wsX0_needPower := goodIn_ca (goodIn_r _ [6, 7, 8, 9, 10, 11, 12, 13, 14, 15, 16, 17, 18, 19, 20, 21, 22] (by decide +kernel) (by decide +kernel)) (goodIn_sub (fun _ h => List.mem_cons_of_mem _ (List.mem_append_right _ h)) (by decide +kernel))
set_option maxRecDepth 20000 in
theorem gX0_fill_X0_needPower : GoodIn wsX0_fill (wsV RX0 39 RX0 yX0_needPower wsX0_needPower) := goodIn_app (goodIn_of _ (by decide +kernel)) ggX0_fill_X0_needPower
theorem dX0_fill_0 : decode cX0_fill 0 = .ok (.aload_n 0, 1) := by decide +kernel
theorem dX0_fill_1 : decode cX0_fill 1 = .ok (.invokevirtual 39, 3) := by decide +kernel
theorem dX0_fill_4 : decode cX0_fill 4 = .ok (.iconst 0, 1) := by decide +kernel
theorem dX0_fill_5 : decode cX0_fill 5 = .ok (.istore_n 3, 1) := by decide +kernel
theorem dX0_fill_6 : decode cX0_fill 6 = .ok (.iload_n 3, 1) := by decide +kernel
theorem dX0_fill_7 : decode cX0_fill 7 = .ok (.bipush 64, 2) := by decide +kernel
theorem dX0_fill_9 : decode cX0_fill 9 = .ok (.if_icmp .ge 20, 3) := by decide +kernel
theorem dX0_fill_12 : decode cX0_fill 12 = .ok (.aload_n 0, 1) := by decide +kernel
theorem dX0_fill_13 : decode cX0_fill 13 = .ok (.getfield 9, 3) := by decide +kernel
theorem dX0_fill_16 : decode cX0_fill 16 = .ok (.iload_n 3, 1) := by decide +kernel
theorem dX0_fill_17 : decode cX0_fill 17 = .ok (.iload_n 1, 1) := by decide +kernel
theorem dX0_fill_18 : decode cX0_fill 18 = .ok (.iload_n 3, 1) := by decide +kernel
theorem dX0_fill_19 : decode cX0_fill 19 = .ok (.iload_n 2, 1) := by decide +kernel
theorem dX0_fill_20 : decode cX0_fill 20 = .ok (.imul, 1) := by decide +kernel
theorem dX0_fill_21 : decode cX0_fill 21 = .ok (.iadd, 1) := by decide +kernel
theorem dX0_fill_22 : decode cX0_fill 22 = .ok (.iastore, 1) := by decide +kernel
theorem dX0_fill_23 : decode cX0_fill 23 = .ok (.iinc 3 1, 3) := by decide +kernel
theorem dX0_fill_26 : decode cX0_fill 26 = .ok (.goto (-20), 3) := by decide +kernel
theorem dX0_fill_29 : decode cX0_fill 29 = .ok (.return_, 1) := by decide +kernel
set_option maxRecDepth 20000 in
theorem ggX0_get_X0_needIndex : GoodIn wsX0_get wsX0_needIndex := goodIn_ca (goodIn_r _ [5, 6, 7] (by decide +kernel) (by decide +kernel)) (goodIn_sub (fun _ h => List.mem_cons_of_mem _ (List.mem_append_right _ h)) (by decide +kernel))
set_option maxRecDepth 20000 in
theorem gX0_get_X0_needIndex : GoodIn wsX0_get (va_wsS RX0 42 yX0_needIndex wsX0_needIndex) := goodIn_app (goodIn_of _ (by decide +kernel)) ggX0_get_X0_needIndex
theorem dX0_get_0 : decode cX0_get 0 = .ok (.iload_n 1, 1) := by decide +kernel
theorem dX0_get_1 : decode cX0_get 1 = .ok (.bipush 64, 2) := by decide +kernel
theorem dX0_get_3 : decode cX0_get 3 = .ok (.invokestatic 42, 3) := by decide +kernel
theorem dX0_get_6 : decode cX0_get 6 = .ok (.aload_n 0, 1) := by decide +kernel
theorem dX0_get_7 : decode cX0_get 7 = .ok (.getfield 9, 3) := by decide +kernel
theorem dX0_get_10 : decode cX0_get 10 = .ok (.iload_n 1, 1) := by decide +kernel
theorem dX0_get_11 : decode cX0_get 11 = .ok (.iaload, 1) := by decide +kernel
theorem dX0_get_12 : decode cX0_get 12 = .ok (.ireturn, 1) := by decide +kernel
theorem dX0_sum_0 : decode cX0_sum 0 = .ok (.iconst 0, 1) := by decide +kernel
theorem dX0_sum_1 : decode cX0_sum 1 = .ok (.istore_n 1, 1) := by decide +kernel
theorem dX0_sum_2 : decode cX0_sum 2 = .ok (.iconst 0, 1) := by decide +kernel
theorem dX0_sum_3 : decode cX0_sum 3 = .ok (.istore_n 2, 1) := by decide +kernel
theorem dX0_sum_4 : decode cX0_sum 4 = .ok (.iload_n 2, 1) := by decide +kernel
theorem dX0_sum_5 : decode cX0_sum 5 = .ok (.bipush 64, 2) := by decide +kernel
theorem dX0_sum_7 : decode cX0_sum 7 = .ok (.if_icmp .ge 22, 3) := by decide +kernel
theorem dX0_sum_10 : decode cX0_sum 10 = .ok (.iload_n 1, 1) := by decide +kernel
theorem dX0_sum_11 : decode cX0_sum 11 = .ok (.aload_n 0, 1) := by decide +kernel
theorem dX0_sum_12 : decode cX0_sum 12 = .ok (.getfield 9, 3) := by decide +kernel
theorem dX0_sum_15 : decode cX0_sum 15 = .ok (.iload_n 2, 1) := by decide +kernel
theorem dX0_sum_16 : decode cX0_sum 16 = .ok (.iaload, 1) := by decide +kernel
theorem dX0_sum_17 : decode cX0_sum 17 = .ok (.iload_n 2, 1) := by decide +kernel
theorem dX0_sum_18 : decode cX0_sum 18 = .ok (.iconst 1, 1) := by decide +kernel
theorem dX0_sum_19 : decode cX0_sum 19 = .ok (.iadd, 1) := by decide +kernel
theorem dX0_sum_20 : decode cX0_sum 20 = .ok (.imul, 1) := by decide +kernel
theorem dX0_sum_21 : decode cX0_sum 21 = .ok (.iadd, 1) := by decide +kernel
theorem dX0_sum_22 : decode cX0_sum 22 = .ok (.istore_n 1, 1) := by decide +kernel
theorem dX0_sum_23 : decode cX0_sum 23 = .ok (.iinc 2 1, 3) := by decide +kernel
theorem dX0_sum_26 : decode cX0_sum 26 = .ok (.goto (-22), 3) := by decide +kernel
theorem dX0_sum_29 : decode cX0_sum 29 = .ok (.iload_n 1, 1) := by decide +kernel
theorem dX0_sum_30 : decode cX0_sum 30 = .ok (.ireturn, 1) := by decide +kernel
set_option maxRecDepth 20000 in
theorem ggX0_write_X0_needPower : GoodIn wsX0_write wsX0_needPower := goodIn_ca (goodIn_r _ [6, 7, 8, 9, 50, 51, 52, 53, 54, 55, 56, 57, 58, 59, 60, 61, 62] (by decide +kernel) (by decide +kernel)) (goodIn_sub (fun _ h => List.mem_cons_of_mem _ (List.mem_append_left _ (List.mem_append_right _ h))) (by decide +kernel))
set_option maxRecDepth 20000 in
theorem gX0_write_X0_needPower : GoodIn wsX0_write (wsV RX0 39 RX0 yX0_needPower wsX0_needPower) := goodIn_app (goodIn_of _ (by decide +kernel)) ggX0_write_X0_needPower
set_option maxRecDepth 20000 in
theorem ggX0_write_X0_needPage : GoodIn wsX0_write wsX0_needPage := goodIn_ca (goodIn_r _ [13, 14, 15, 5, 16, 17, 18] (by decide +kernel) (by decide +kernel)) (goodIn_sub (fun _ h => List.mem_cons_of_mem _ (List.mem_append_right _ h)) (by decide +kernel))
set_option maxRecDepth 20000 in
theorem gX0_write_X0_needPage : GoodIn wsX0_write (wsV RX0 46 RX0 yX0_needPage wsX0_needPage) := goodIn_app (goodIn_of _ (by decide +kernel)) ggX0_write_X0_needPage
set_option maxRecDepth 20000 in
theorem ggX0_write_X0_pageIndex : GoodIn wsX0_write wsX0_pageIndex := goodIn_r _ [21] (by decide +kernel) (by decide +kernel)
set_option maxRecDepth 20000 in
theorem gX0_write_X0_pageIndex : GoodIn wsX0_write (va_wsS RX0 49 yX0_pageIndex wsX0_pageIndex) := goodIn_app (goodIn_of _ (by decide +kernel)) ggX0_write_X0_pageIndex
set_option maxRecDepth 20000 in
theorem ggX0_write_X0_writePage : GoodIn wsX0_write wsX0_writePage := goodIn_r _ [25, 26, 27, 28, 29, 30, 31, 32, 33, 34, 35, 36, 5, 37, 38, 39, 40, 41, 42, 43, 9, 44, 45, 1, 46, 47, 48, 49, 50, 51, 52, 53, 54, 55, 56, 57, 58, 59, 60, 61, 62] (by decide +kernel) (by decide +kernel)
set_option maxRecDepth 20000 in
theorem gX0_write_X0_writePage : GoodIn wsX0_write (wsV RX0 53 RX0 yX0_writePage wsX0_writePage) := goodIn_app (goodIn_of _ (by decide +kernel)) ggX0_write_X0_writePage
theorem dX0_write_0 : decode cX0_write 0 = .ok (.aload_n 0, 1) := by decide +kernel
theorem dX0_write_1 : decode cX0_write 1 = .ok (.invokevirtual 39, 3) := by decide +kernel
theorem dX0_write_4 : decode cX0_write 4 = .ok (.aload_n 0, 1) := by decide +kernel
theorem dX0_write_5 : decode cX0_write 5 = .ok (.iload_n 1, 1) := by decide +kernel
theorem dX0_write_6 : decode cX0_write 6 = .ok (.iload_n 2, 1) := by decide +kernel
theorem dX0_write_7 : decode cX0_write 7 = .ok (.invokevirtual 46, 3) := by decide +kernel
theorem dX0_write_10 : decode cX0_write 10 = .ok (.aload_n 0, 1) := by decide +kernel
theorem dX0_write_11 : decode cX0_write 11 = .ok (.iload_n 1, 1) := by decide +kernel
theorem dX0_write_12 : decode cX0_write 12 = .ok (.iload_n 2, 1) := by decide +kernel
theorem dX0_write_13 : decode cX0_write 13 = .ok (.invokestatic 49, 3) := by decide +kernel
theorem dX0_write_16 : decode cX0_write 16 = .ok (.aload_n 0, 1) := by decide +kernel
theorem dX0_write_17 : decode cX0_write 17 = .ok (.getfield 9, 3) := by decide +kernel
theorem dX0_write_20 : decode cX0_write 20 = .ok (.iconst 0, 1) := by decide +kernel
theorem dX0_write_21 : decode cX0_write 21 = .ok (.invokevirtual 53, 3) := by decide +kernel
theorem dX0_write_24 : decode cX0_write 24 = .ok (.ireturn, 1) := by decide +kernel
set_option maxRecDepth 20000 in
theorem ggX0_read_X0_needPower : GoodIn wsX0_read wsX0_needPower := goodIn_ca (goodIn_r _ [11, 12, 13, 14, 37, 38, 39, 40, 41, 42, 43, 44, 45, 46, 47, 48, 49] (by decide +kernel) (by decide +kernel)) (goodIn_sub (fun _ h => List.mem_cons_of_mem _ (List.mem_append_left _ (List.mem_append_right _ h))) (by decide +kernel))
set_option maxRecDepth 20000 in
theorem gX0_read_X0_needPower : GoodIn wsX0_read (wsV RX0 39 RX0 yX0_needPower wsX0_needPower) := goodIn_app (goodIn_of _ (by decide +kernel)) ggX0_read_X0_needPower
set_option maxRecDepth 20000 in
theorem ggX0_read_X0_needPage : GoodIn wsX0_read wsX0_needPage := goodIn_ca (goodIn_r _ [18, 19, 20, 10, 21, 22, 23] (by decide +kernel) (by decide +kernel)) (goodIn_sub (fun _ h => List.mem_cons_of_mem _ (List.mem_append_right _ h)) (by decide +kernel))
set_option maxRecDepth 20000 in
theorem gX0_read_X0_needPage : GoodIn wsX0_read (wsV RX0 46 RX0 yX0_needPage wsX0_needPage) := goodIn_app (goodIn_of _ (by decide +kernel)) ggX0_read_X0_needPage
set_option maxRecDepth 20000 in
theorem ggX0_read_X0_pageIndex : GoodIn wsX0_read wsX0_pageIndex := goodIn_r _ [26] (by decide +kernel) (by decide +kernel)
set_option maxRecDepth 20000 in
theorem gX0_read_X0_pageIndex : GoodIn wsX0_read (va_wsS RX0 49 yX0_pageIndex wsX0_pageIndex) := goodIn_app (goodIn_of _ (by decide +kernel)) ggX0_read_X0_pageIndex
set_option maxRecDepth 20000 in
theorem ggX0_read_X0_pageState : GoodIn wsX0_read wsX0_pageState := goodIn_r _ [30, 31, 32, 37, 38, 39, 40, 41, 42, 43, 44, 45, 46, 47, 48, 49] (by decide +kernel) (by decide +kernel)
set_option maxRecDepth 20000 in
theorem gX0_read_X0_pageState : GoodIn wsX0_read (wsV RX0 57 RX0 yX0_pageState wsX0_pageState) := goodIn_app (goodIn_of _ (by decide +kernel)) ggX0_read_X0_pageState
set_option maxRecDepth 20000 in
theorem ggX0_read_J7_fill_53178 : GoodIn wsX0_read wsJ7_fill_53178 := goodIn_r _ [36] (by decide +kernel) (by decide +kernel)
set_option maxRecDepth 20000 in
theorem gX0_read_J7_fill_53178 : GoodIn wsX0_read (va_wsS RX0 61 yJ7_fill_53178 wsJ7_fill_53178) := goodIn_app (goodIn_of _ (by decide +kernel)) ggX0_read_J7_fill_53178
theorem dX0_read_0 : decode cX0_read 0 = .ok (.aload_n 0, 1) := by decide +kernel
theorem dX0_read_1 : decode cX0_read 1 = .ok (.invokevirtual 39, 3) := by decide +kernel
theorem dX0_read_4 : decode cX0_read 4 = .ok (.aload_n 0, 1) := by decide +kernel
theorem dX0_read_5 : decode cX0_read 5 = .ok (.iload_n 1, 1) := by decide +kernel
theorem dX0_read_6 : decode cX0_read 6 = .ok (.iload_n 2, 1) := by decide +kernel
theorem dX0_read_7 : decode cX0_read 7 = .ok (.invokevirtual 46, 3) := by decide +kernel
theorem dX0_read_10 : decode cX0_read 10 = .ok (.iload_n 1, 1) := by decide +kernel
theorem dX0_read_11 : decode cX0_read 11 = .ok (.iload_n 2, 1) := by decide +kernel
theorem dX0_read_12 : decode cX0_read 12 = .ok (.invokestatic 49, 3) := by decide +kernel
theorem dX0_read_15 : decode cX0_read 15 = .ok (.istore_n 3, 1) := by decide +kernel
theorem dX0_read_16 : decode cX0_read 16 = .ok (.aload_n 0, 1) := by decide +kernel
theorem dX0_read_17 : decode cX0_read 17 = .ok (.iload_n 3, 1) := by decide +kernel
theorem dX0_read_18 : decode cX0_read 18 = .ok (.invokevirtual 57, 3) := by decide +kernel
theorem dX0_read_21 : decode cX0_read 21 = .ok (.istore 4, 2) := by decide +kernel
theorem dX0_read_23 : decode cX0_read 23 = .ok (.iload 4, 2) := by decide +kernel
theorem dX0_read_25 : decode cX0_read 25 = .ok (.iconst 2, 1) := by decide +kernel
theorem dX0_read_26 : decode cX0_read 26 = .ok (.if_icmp .ne 14, 3) := by decide +kernel
theorem dX0_read_29 : decode cX0_read 29 = .ok (.aload_n 0, 1) := by decide +kernel
theorem dX0_read_30 : decode cX0_read 30 = .ok (.getfield 9, 3) := by decide +kernel
theorem dX0_read_33 : decode cX0_read 33 = .ok (.iconst 0, 1) := by decide +kernel
theorem dX0_read_34 : decode cX0_read 34 = .ok (.invokestatic 61, 3) := by decide +kernel
theorem dX0_read_37 : decode cX0_read 37 = .ok (.goto 21, 3) := by decide +kernel
theorem dX0_read_40 : decode cX0_read 40 = .ok (.aload_n 0, 1) := by decide +kernel
theorem dX0_read_41 : decode cX0_read 41 = .ok (.getfield 14, 3) := by decide +kernel
theorem dX0_read_44 : decode cX0_read 44 = .ok (.iload_n 3, 1) := by decide +kernel
theorem dX0_read_45 : decode cX0_read 45 = .ok (.bipush 64, 2) := by decide +kernel
theorem dX0_read_47 : decode cX0_read 47 = .ok (.imul, 1) := by decide +kernel
theorem dX0_read_48 : decode cX0_read 48 = .ok (.aload_n 0, 1) := by decide +kernel
theorem dX0_read_49 : decode cX0_read 49 = .ok (.getfield 9, 3) := by decide +kernel
theorem dX0_read_52 : decode cX0_read 52 = .ok (.iconst 0, 1) := by decide +kernel
theorem dX0_read_53 : decode cX0_read 53 = .ok (.bipush 64, 2) := by decide +kernel
theorem dX0_read_55 : decode cX0_read 55 = .ok (.invokestatic 67, 3) := by decide +kernel
theorem dX0_read_58 : decode cX0_read 58 = .ok (.iload 4, 2) := by decide +kernel
theorem dX0_read_60 : decode cX0_read 60 = .ok (.ireturn, 1) := by decide +kernel
set_option maxRecDepth 20000 in
theorem ggX0_copy_X0_needPower : GoodIn wsX0_copy wsX0_needPower := goodIn_ca (goodIn_r _ [8, 1, 2, 9, 54, 55, 56, 57, 58, 59, 60, 61, 62, 63, 64, 65, 66] (by decide +kernel) (by decide +kernel)) (goodIn_sub (fun _ h => List.mem_cons_of_mem _ (List.mem_append_left _ (List.mem_append_right _ h))) (by decide +kernel))
set_option maxRecDepth 20000 in
theorem gX0_copy_X0_needPower : GoodIn wsX0_copy (wsV RX0 39 RX0 yX0_needPower wsX0_needPower) := goodIn_app (goodIn_of _ (by decide +kernel)) ggX0_copy_X0_needPower
set_option maxRecDepth 20000 in
theorem ggX0_copy_X0_needPage : GoodIn wsX0_copy wsX0_needPage := goodIn_ca (goodIn_r _ [13, 14, 15, 7, 16, 17, 18] (by decide +kernel) (by decide +kernel)) (goodIn_sub (fun _ h => List.mem_cons_of_mem _ (List.mem_append_right _ h)) (by decide +kernel))
set_option maxRecDepth 20000 in
theorem gX0_copy_X0_needPage : GoodIn wsX0_copy (wsV RX0 46 RX0 yX0_needPage wsX0_needPage) := goodIn_app (goodIn_of _ (by decide +kernel)) ggX0_copy_X0_needPage
set_option maxRecDepth 20000 in
theorem ggX0_copy_X0_pageIndex : GoodIn wsX0_copy wsX0_pageIndex := goodIn_r _ [21] (by decide +kernel) (by decide +kernel)
set_option maxRecDepth 20000 in
theorem gX0_copy_X0_pageIndex : GoodIn wsX0_copy (va_wsS RX0 49 yX0_pageIndex wsX0_pageIndex) := goodIn_app (goodIn_of _ (by decide +kernel)) ggX0_copy_X0_pageIndex
set_option maxRecDepth 20000 in
theorem ggX0_copy_X0_pageState : GoodIn wsX0_copy wsX0_pageState := goodIn_r _ [25, 26, 27, 54, 55, 56, 57, 58, 59, 60, 61, 62, 63, 64, 65, 66] (by decide +kernel) (by decide +kernel)
set_option maxRecDepth 20000 in
theorem gX0_copy_X0_pageState : GoodIn wsX0_copy (wsV RX0 57 RX0 yX0_pageState wsX0_pageState) := goodIn_app (goodIn_of _ (by decide +kernel)) ggX0_copy_X0_pageState
set_option maxRecDepth 20000 in
theorem ggX0_copy_X0_writePage : GoodIn wsX0_copy wsX0_writePage := goodIn_r _ [31, 32, 3, 33, 34, 35, 36, 27, 26, 37, 38, 39, 7, 40, 41, 42, 43, 44, 45, 46, 9, 47, 48, 49, 50, 51, 52, 53, 54, 55, 56, 57, 58, 59, 60, 61, 62, 63, 64, 65, 66] (by decide +kernel) (by decide +kernel)
set_option maxRecDepth 20000 in
theorem gX0_copy_X0_writePage : GoodIn wsX0_copy (wsV RX0 53 RX0 yX0_writePage wsX0_writePage) := goodIn_app (goodIn_of _ (by decide +kernel)) ggX0_copy_X0_writePage
theorem dX0_copy_0 : decode cX0_copy 0 = .ok (.aload_n 0, 1) := by decide +kernel
theorem dX0_copy_1 : decode cX0_copy 1 = .ok (.invokevirtual 39, 3) := by decide +kernel
theorem dX0_copy_4 : decode cX0_copy 4 = .ok (.aload_n 0, 1) := by decide +kernel
theorem dX0_copy_5 : decode cX0_copy 5 = .ok (.iload_n 1, 1) := by decide +kernel
theorem dX0_copy_6 : decode cX0_copy 6 = .ok (.iload_n 2, 1) := by decide +kernel
theorem dX0_copy_7 : decode cX0_copy 7 = .ok (.invokevirtual 46, 3) := by decide +kernel
theorem dX0_copy_10 : decode cX0_copy 10 = .ok (.iload_n 1, 1) := by decide +kernel
theorem dX0_copy_11 : decode cX0_copy 11 = .ok (.iload_n 2, 1) := by decide +kernel
theorem dX0_copy_12 : decode cX0_copy 12 = .ok (.invokestatic 49, 3) := by decide +kernel
theorem dX0_copy_15 : decode cX0_copy 15 = .ok (.istore_n 3, 1) := by decide +kernel
theorem dX0_copy_16 : decode cX0_copy 16 = .ok (.aload_n 0, 1) := by decide +kernel
theorem dX0_copy_17 : decode cX0_copy 17 = .ok (.iload_n 3, 1) := by decide +kernel
theorem dX0_copy_18 : decode cX0_copy 18 = .ok (.invokevirtual 57, 3) := by decide +kernel
theorem dX0_copy_21 : decode cX0_copy 21 = .ok (.ifCond .eq 13, 3) := by decide +kernel
theorem dX0_copy_24 : decode cX0_copy 24 = .ok (.new 73, 3) := by decide +kernel
theorem dX0_copy_27 : decode cX0_copy 27 = .ok (.dup, 1) := by decide +kernel
theorem dX0_copy_28 : decode cX0_copy 28 = .ok (.ldc 75, 2) := by decide +kernel
theorem dX0_copy_30 : decode cX0_copy 30 = .ok (.invokespecial 77, 3) := by decide +kernel
theorem dX0_copy_33 : decode cX0_copy 33 = .ok (.athrow, 1) := by decide +kernel
theorem dX0_copy_34 : decode cX0_copy 34 = .ok (.aload_n 0, 1) := by decide +kernel
theorem dX0_copy_35 : decode cX0_copy 35 = .ok (.iconst 1, 1) := by decide +kernel
theorem dX0_copy_36 : decode cX0_copy 36 = .ok (.iload_n 1, 1) := by decide +kernel
theorem dX0_copy_37 : decode cX0_copy 37 = .ok (.isub, 1) := by decide +kernel
theorem dX0_copy_38 : decode cX0_copy 38 = .ok (.iload_n 2, 1) := by decide +kernel
theorem dX0_copy_39 : decode cX0_copy 39 = .ok (.invokestatic 49, 3) := by decide +kernel
theorem dX0_copy_42 : decode cX0_copy 42 = .ok (.aload_n 0, 1) := by decide +kernel
theorem dX0_copy_43 : decode cX0_copy 43 = .ok (.getfield 14, 3) := by decide +kernel
theorem dX0_copy_46 : decode cX0_copy 46 = .ok (.iload_n 3, 1) := by decide +kernel
theorem dX0_copy_47 : decode cX0_copy 47 = .ok (.bipush 64, 2) := by decide +kernel
theorem dX0_copy_49 : decode cX0_copy 49 = .ok (.imul, 1) := by decide +kernel
theorem dX0_copy_50 : decode cX0_copy 50 = .ok (.invokevirtual 53, 3) := by decide +kernel
theorem dX0_copy_53 : decode cX0_copy 53 = .ok (.ireturn, 1) := by decide +kernel
set_option maxRecDepth 20000 in
theorem ggX0_lose_X0_needPage : GoodIn wsX0_lose wsX0_needPage := goodIn_ca (goodIn_r _ [6, 7, 8, 5, 9, 10, 11] (by decide +kernel) (by decide +kernel)) (goodIn_sub (fun _ h => List.mem_cons_of_mem _ (List.mem_append_right _ h)) (by decide +kernel))
set_option maxRecDepth 20000 in
theorem gX0_lose_X0_needPage : GoodIn wsX0_lose (wsV RX0 46 RX0 yX0_needPage wsX0_needPage) := goodIn_app (goodIn_of _ (by decide +kernel)) ggX0_lose_X0_needPage
set_option maxRecDepth 20000 in
theorem ggX0_lose_X0_pageIndex : GoodIn wsX0_lose wsX0_pageIndex := goodIn_r _ [14] (by decide +kernel) (by decide +kernel)
set_option maxRecDepth 20000 in
theorem gX0_lose_X0_pageIndex : GoodIn wsX0_lose (va_wsS RX0 49 yX0_pageIndex wsX0_pageIndex) := goodIn_app (goodIn_of _ (by decide +kernel)) ggX0_lose_X0_pageIndex
theorem dX0_lose_0 : decode cX0_lose 0 = .ok (.aload_n 0, 1) := by decide +kernel
theorem dX0_lose_1 : decode cX0_lose 1 = .ok (.iload_n 1, 1) := by decide +kernel
theorem dX0_lose_2 : decode cX0_lose 2 = .ok (.iload_n 2, 1) := by decide +kernel
theorem dX0_lose_3 : decode cX0_lose 3 = .ok (.invokevirtual 46, 3) := by decide +kernel
theorem dX0_lose_6 : decode cX0_lose 6 = .ok (.aload_n 0, 1) := by decide +kernel
theorem dX0_lose_7 : decode cX0_lose 7 = .ok (.getfield 20, 3) := by decide +kernel
theorem dX0_lose_10 : decode cX0_lose 10 = .ok (.iload_n 1, 1) := by decide +kernel
theorem dX0_lose_11 : decode cX0_lose 11 = .ok (.iload_n 2, 1) := by decide +kernel
theorem dX0_lose_12 : decode cX0_lose 12 = .ok (.invokestatic 49, 3) := by decide +kernel
theorem dX0_lose_15 : decode cX0_lose 15 = .ok (.iconst 1, 1) := by decide +kernel
theorem dX0_lose_16 : decode cX0_lose 16 = .ok (.bastore, 1) := by decide +kernel
theorem dX0_lose_17 : decode cX0_lose 17 = .ok (.return_, 1) := by decide +kernel
set_option maxRecDepth 20000 in
theorem ggX0_stamp_X0_needPage : GoodIn wsX0_stamp wsX0_needPage := goodIn_ca (goodIn_r _ [6, 7, 8, 5, 9, 10, 11] (by decide +kernel) (by decide +kernel)) (goodIn_sub (fun _ h => List.mem_cons_of_mem _ (List.mem_append_right _ h)) (by decide +kernel))
set_option maxRecDepth 20000 in
theorem gX0_stamp_X0_needPage : GoodIn wsX0_stamp (wsV RX0 46 RX0 yX0_needPage wsX0_needPage) := goodIn_app (goodIn_of _ (by decide +kernel)) ggX0_stamp_X0_needPage
set_option maxRecDepth 20000 in
theorem ggX0_stamp_X0_needIndex : GoodIn wsX0_stamp wsX0_needIndex := goodIn_ca (goodIn_r _ [9, 10, 11] (by decide +kernel) (by decide +kernel)) (goodIn_sub (fun _ h => List.mem_cons_of_mem _ (List.mem_append_right _ h)) (by decide +kernel))
set_option maxRecDepth 20000 in
theorem gX0_stamp_X0_needIndex : GoodIn wsX0_stamp (va_wsS RX0 42 yX0_needIndex wsX0_needIndex) := goodIn_app (goodIn_of _ (by decide +kernel)) ggX0_stamp_X0_needIndex
set_option maxRecDepth 20000 in
theorem ggX0_stamp_X0_pageIndex : GoodIn wsX0_stamp wsX0_pageIndex := goodIn_r _ [14] (by decide +kernel) (by decide +kernel)
set_option maxRecDepth 20000 in
theorem gX0_stamp_X0_pageIndex : GoodIn wsX0_stamp (va_wsS RX0 49 yX0_pageIndex wsX0_pageIndex) := goodIn_app (goodIn_of _ (by decide +kernel)) ggX0_stamp_X0_pageIndex
theorem dX0_stamp_0 : decode cX0_stamp 0 = .ok (.aload_n 0, 1) := by decide +kernel
theorem dX0_stamp_1 : decode cX0_stamp 1 = .ok (.iload_n 1, 1) := by decide +kernel
theorem dX0_stamp_2 : decode cX0_stamp 2 = .ok (.iload_n 2, 1) := by decide +kernel
theorem dX0_stamp_3 : decode cX0_stamp 3 = .ok (.invokevirtual 46, 3) := by decide +kernel
theorem dX0_stamp_6 : decode cX0_stamp 6 = .ok (.iload_n 3, 1) := by decide +kernel
theorem dX0_stamp_7 : decode cX0_stamp 7 = .ok (.iconst 2, 1) := by decide +kernel
theorem dX0_stamp_8 : decode cX0_stamp 8 = .ok (.invokestatic 42, 3) := by decide +kernel
theorem dX0_stamp_11 : decode cX0_stamp 11 = .ok (.aload_n 0, 1) := by decide +kernel
theorem dX0_stamp_12 : decode cX0_stamp 12 = .ok (.getfield 17, 3) := by decide +kernel
theorem dX0_stamp_15 : decode cX0_stamp 15 = .ok (.iload_n 1, 1) := by decide +kernel
theorem dX0_stamp_16 : decode cX0_stamp 16 = .ok (.iload_n 2, 1) := by decide +kernel
theorem dX0_stamp_17 : decode cX0_stamp 17 = .ok (.invokestatic 49, 3) := by decide +kernel
theorem dX0_stamp_20 : decode cX0_stamp 20 = .ok (.iconst 2, 1) := by decide +kernel
theorem dX0_stamp_21 : decode cX0_stamp 21 = .ok (.imul, 1) := by decide +kernel
theorem dX0_stamp_22 : decode cX0_stamp 22 = .ok (.iload_n 3, 1) := by decide +kernel
theorem dX0_stamp_23 : decode cX0_stamp 23 = .ok (.iadd, 1) := by decide +kernel
theorem dX0_stamp_24 : decode cX0_stamp 24 = .ok (.iaload, 1) := by decide +kernel
theorem dX0_stamp_25 : decode cX0_stamp 25 = .ok (.ireturn, 1) := by decide +kernel
set_option maxRecDepth 20000 in
theorem ggX0_count_X0_needIndex : GoodIn wsX0_count wsX0_needIndex := goodIn_ca (goodIn_r _ [4, 5, 6] (by decide +kernel) (by decide +kernel)) (goodIn_sub (fun _ h => List.mem_cons_of_mem _ (List.mem_append_right _ h)) (by decide +kernel))
set_option maxRecDepth 20000 in
theorem gX0_count_X0_needIndex : GoodIn wsX0_count (va_wsS RX0 42 yX0_needIndex wsX0_needIndex) := goodIn_app (goodIn_of _ (by decide +kernel)) ggX0_count_X0_needIndex
set_option maxRecDepth 20000 in
theorem ggX0_count_X0_pageIndex : GoodIn wsX0_count wsX0_pageIndex := goodIn_r _ [9] (by decide +kernel) (by decide +kernel)
set_option maxRecDepth 20000 in
theorem gX0_count_X0_pageIndex : GoodIn wsX0_count (va_wsS RX0 49 yX0_pageIndex wsX0_pageIndex) := goodIn_app (goodIn_of _ (by decide +kernel)) ggX0_count_X0_pageIndex
set_option maxRecDepth 20000 in
theorem ggX0_count_X0_pageState : GoodIn wsX0_count wsX0_pageState := goodIn_r _ [13, 14, 15, 16, 17, 18, 19, 20, 21, 22, 23, 24, 25, 26, 27, 28] (by decide +kernel) (by decide +kernel)
set_option maxRecDepth 20000 in
theorem gX0_count_X0_pageState : GoodIn wsX0_count (wsV RX0 57 RX0 yX0_pageState wsX0_pageState) := goodIn_app (goodIn_of _ (by decide +kernel)) ggX0_count_X0_pageState
theorem dX0_count_0 : decode cX0_count 0 = .ok (.iload_n 1, 1) := by decide +kernel
theorem dX0_count_1 : decode cX0_count 1 = .ok (.iconst 2, 1) := by decide +kernel
theorem dX0_count_2 : decode cX0_count 2 = .ok (.invokestatic 42, 3) := by decide +kernel
theorem dX0_count_5 : decode cX0_count 5 = .ok (.iload_n 2, 1) := by decide +kernel
theorem dX0_count_6 : decode cX0_count 6 = .ok (.iconst 3, 1) := by decide +kernel
theorem dX0_count_7 : decode cX0_count 7 = .ok (.invokestatic 42, 3) := by decide +kernel
theorem dX0_count_10 : decode cX0_count 10 = .ok (.iconst 0, 1) := by decide +kernel
theorem dX0_count_11 : decode cX0_count 11 = .ok (.istore_n 3, 1) := by decide +kernel
theorem dX0_count_12 : decode cX0_count 12 = .ok (.iconst 0, 1) := by decide +kernel
theorem dX0_count_13 : decode cX0_count 13 = .ok (.istore 4, 2) := by decide +kernel
theorem dX0_count_15 : decode cX0_count 15 = .ok (.iload 4, 2) := by decide +kernel
theorem dX0_count_17 : decode cX0_count 17 = .ok (.sipush 256, 3) := by decide +kernel
theorem dX0_count_20 : decode cX0_count 20 = .ok (.if_icmp .ge 26, 3) := by decide +kernel
theorem dX0_count_23 : decode cX0_count 23 = .ok (.aload_n 0, 1) := by decide +kernel
theorem dX0_count_24 : decode cX0_count 24 = .ok (.iload_n 1, 1) := by decide +kernel
theorem dX0_count_25 : decode cX0_count 25 = .ok (.iload 4, 2) := by decide +kernel
theorem dX0_count_27 : decode cX0_count 27 = .ok (.invokestatic 49, 3) := by decide +kernel
theorem dX0_count_30 : decode cX0_count 30 = .ok (.invokevirtual 57, 3) := by decide +kernel
theorem dX0_count_33 : decode cX0_count 33 = .ok (.iload_n 2, 1) := by decide +kernel
theorem dX0_count_34 : decode cX0_count 34 = .ok (.if_icmp .ne 6, 3) := by decide +kernel
theorem dX0_count_37 : decode cX0_count 37 = .ok (.iinc 3 1, 3) := by decide +kernel
theorem dX0_count_40 : decode cX0_count 40 = .ok (.iinc 4 1, 3) := by decide +kernel
theorem dX0_count_43 : decode cX0_count 43 = .ok (.goto (-28), 3) := by decide +kernel
theorem dX0_count_46 : decode cX0_count 46 = .ok (.iload_n 3, 1) := by decide +kernel
theorem dX0_count_47 : decode cX0_count 47 = .ok (.ireturn, 1) := by decide +kernel
set_option maxRecDepth 20000 in
theorem ggX0_append_X0_needPower : GoodIn wsX0_append wsX0_needPower := goodIn_ca (goodIn_r _ [10, 11, 12, 13, 23, 24, 25, 26, 27, 28, 29, 30, 31, 32, 33, 34, 35] (by decide +kernel) (by decide +kernel)) (goodIn_sub (fun _ h => List.mem_cons_of_mem _ (List.mem_append_left _ (List.mem_append_right _ h))) (by decide +kernel))
set_option maxRecDepth 20000 in
theorem gX0_append_X0_needPower : GoodIn wsX0_append (wsV RX0 39 RX0 yX0_needPower wsX0_needPower) := goodIn_app (goodIn_of _ (by decide +kernel)) ggX0_append_X0_needPower
set_option maxRecDepth 20000 in
theorem ggX0_append_X0_needWordCount : GoodIn wsX0_append wsX0_needWordCount := goodIn_ca (goodIn_r _ [16, 17, 18] (by decide +kernel) (by decide +kernel)) (goodIn_sub (fun _ h => List.mem_cons_of_mem _ (List.mem_append_right _ h)) (by decide +kernel))
set_option maxRecDepth 20000 in
theorem gX0_append_X0_needWordCount : GoodIn wsX0_append (va_wsS RX0 80 yX0_needWordCount wsX0_needWordCount) := goodIn_app (goodIn_of _ (by decide +kernel)) ggX0_append_X0_needWordCount
set_option maxRecDepth 20000 in
theorem ggX0_append_X0_logSlot : GoodIn wsX0_append wsX0_logSlot := goodIn_r _ [21, 22] (by decide +kernel) (by decide +kernel)
set_option maxRecDepth 20000 in
theorem gX0_append_X0_logSlot : GoodIn wsX0_append (va_wsS RX0 90 yX0_logSlot wsX0_logSlot) := goodIn_app (goodIn_of _ (by decide +kernel)) ggX0_append_X0_logSlot
theorem dX0_append_0 : decode cX0_append 0 = .ok (.aload_n 0, 1) := by decide +kernel
theorem dX0_append_1 : decode cX0_append 1 = .ok (.invokevirtual 39, 3) := by decide +kernel
theorem dX0_append_4 : decode cX0_append 4 = .ok (.iload_n 1, 1) := by decide +kernel
theorem dX0_append_5 : decode cX0_append 5 = .ok (.invokestatic 80, 3) := by decide +kernel
theorem dX0_append_8 : decode cX0_append 8 = .ok (.iload_n 1, 1) := by decide +kernel
theorem dX0_append_9 : decode cX0_append 9 = .ok (.ldc 24, 2) := by decide +kernel
theorem dX0_append_11 : decode cX0_append 11 = .ok (.aload_n 0, 1) := by decide +kernel
theorem dX0_append_12 : decode cX0_append 12 = .ok (.getfield 84, 3) := by decide +kernel
theorem dX0_append_15 : decode cX0_append 15 = .ok (.aload_n 0, 1) := by decide +kernel
theorem dX0_append_16 : decode cX0_append 16 = .ok (.getfield 87, 3) := by decide +kernel
theorem dX0_append_19 : decode cX0_append 19 = .ok (.isub, 1) := by decide +kernel
theorem dX0_append_20 : decode cX0_append 20 = .ok (.isub, 1) := by decide +kernel
theorem dX0_append_21 : decode cX0_append 21 = .ok (.if_icmp .le 5, 3) := by decide +kernel
theorem dX0_append_24 : decode cX0_append 24 = .ok (.iconst (-1), 1) := by decide +kernel
theorem dX0_append_25 : decode cX0_append 25 = .ok (.ireturn, 1) := by decide +kernel
theorem dX0_append_26 : decode cX0_append 26 = .ok (.aload_n 0, 1) := by decide +kernel
theorem dX0_append_27 : decode cX0_append 27 = .ok (.getfield 84, 3) := by decide +kernel
theorem dX0_append_30 : decode cX0_append 30 = .ok (.istore_n 2, 1) := by decide +kernel
theorem dX0_append_31 : decode cX0_append 31 = .ok (.iconst 0, 1) := by decide +kernel
theorem dX0_append_32 : decode cX0_append 32 = .ok (.istore_n 3, 1) := by decide +kernel
theorem dX0_append_33 : decode cX0_append 33 = .ok (.iload_n 3, 1) := by decide +kernel
theorem dX0_append_34 : decode cX0_append 34 = .ok (.iload_n 1, 1) := by decide +kernel
theorem dX0_append_35 : decode cX0_append 35 = .ok (.if_icmp .ge 26, 3) := by decide +kernel
theorem dX0_append_38 : decode cX0_append 38 = .ok (.aload_n 0, 1) := by decide +kernel
theorem dX0_append_39 : decode cX0_append 39 = .ok (.getfield 25, 3) := by decide +kernel
theorem dX0_append_42 : decode cX0_append 42 = .ok (.iload_n 2, 1) := by decide +kernel
theorem dX0_append_43 : decode cX0_append 43 = .ok (.iload_n 3, 1) := by decide +kernel
theorem dX0_append_44 : decode cX0_append 44 = .ok (.iadd, 1) := by decide +kernel
theorem dX0_append_45 : decode cX0_append 45 = .ok (.invokestatic 90, 3) := by decide +kernel
theorem dX0_append_48 : decode cX0_append 48 = .ok (.aload_n 0, 1) := by decide +kernel
theorem dX0_append_49 : decode cX0_append 49 = .ok (.getfield 9, 3) := by decide +kernel
theorem dX0_append_52 : decode cX0_append 52 = .ok (.iload_n 3, 1) := by decide +kernel
theorem dX0_append_53 : decode cX0_append 53 = .ok (.iaload, 1) := by decide +kernel
theorem dX0_append_54 : decode cX0_append 54 = .ok (.iastore, 1) := by decide +kernel
theorem dX0_append_55 : decode cX0_append 55 = .ok (.iinc 3 1, 3) := by decide +kernel
theorem dX0_append_58 : decode cX0_append 58 = .ok (.goto (-25), 3) := by decide +kernel
theorem dX0_append_61 : decode cX0_append 61 = .ok (.aload_n 0, 1) := by decide +kernel
theorem dX0_append_62 : decode cX0_append 62 = .ok (.iload_n 2, 1) := by decide +kernel
theorem dX0_append_63 : decode cX0_append 63 = .ok (.iload_n 1, 1) := by decide +kernel
theorem dX0_append_64 : decode cX0_append 64 = .ok (.iadd, 1) := by decide +kernel
theorem dX0_append_65 : decode cX0_append 65 = .ok (.putfield 84, 3) := by decide +kernel
theorem dX0_append_68 : decode cX0_append 68 = .ok (.iload_n 2, 1) := by decide +kernel
theorem dX0_append_69 : decode cX0_append 69 = .ok (.ireturn, 1) := by decide +kernel
set_option maxRecDepth 20000 in
theorem ggX0_force_X0_needPower : GoodIn wsX0_force wsX0_needPower := goodIn_ca (goodIn_r _ [7, 8, 9, 10, 33, 34, 35, 36, 37, 38, 39, 40, 41, 42, 43, 44, 45] (by decide +kernel) (by decide +kernel)) (goodIn_sub (fun _ h => List.mem_cons_of_mem _ (List.mem_append_left _ (List.mem_append_right _ h))) (by decide +kernel))
set_option maxRecDepth 20000 in
theorem gX0_force_X0_needPower : GoodIn wsX0_force (wsV RX0 39 RX0 yX0_needPower wsX0_needPower) := goodIn_app (goodIn_of _ (by decide +kernel)) ggX0_force_X0_needPower
set_option maxRecDepth 20000 in
theorem ggX0_force_X0_needPlace : GoodIn wsX0_force wsX0_needPlace := goodIn_ca (goodIn_r _ [14, 15, 16, 17, 33, 34, 35, 36, 37, 38, 39, 40, 41, 42, 43, 44, 45] (by decide +kernel) (by decide +kernel)) (goodIn_sub (fun _ h => List.mem_cons_of_mem _ (List.mem_append_right _ h)) (by decide +kernel))
set_option maxRecDepth 20000 in
theorem gX0_force_X0_needPlace : GoodIn wsX0_force (wsV RX0 93 RX0 yX0_needPlace wsX0_needPlace) := goodIn_app (goodIn_of _ (by decide +kernel)) ggX0_force_X0_needPlace
set_option maxRecDepth 20000 in
theorem ggX0_force_X0_makeLeastWrite : GoodIn wsX0_force wsX0_makeLeastWrite := goodIn_r _ [21, 22, 23, 24, 25, 26, 6, 27, 10, 2, 1, 28, 29, 30, 31, 32, 33, 34, 35, 36, 37, 38, 39, 40, 41, 42, 43, 44, 45] (by decide +kernel) (by decide +kernel)
set_option maxRecDepth 20000 in
theorem gX0_force_X0_makeLeastWrite : GoodIn wsX0_force (wsV RX0 99 RX0 yX0_makeLeastWrite wsX0_makeLeastWrite) := goodIn_app (goodIn_of _ (by decide +kernel)) ggX0_force_X0_makeLeastWrite
theorem dX0_force_0 : decode cX0_force 0 = .ok (.aload_n 0, 1) := by decide +kernel
theorem dX0_force_1 : decode cX0_force 1 = .ok (.invokevirtual 39, 3) := by decide +kernel
theorem dX0_force_4 : decode cX0_force 4 = .ok (.aload_n 0, 1) := by decide +kernel
theorem dX0_force_5 : decode cX0_force 5 = .ok (.iload_n 1, 1) := by decide +kernel
theorem dX0_force_6 : decode cX0_force 6 = .ok (.aload_n 0, 1) := by decide +kernel
theorem dX0_force_7 : decode cX0_force 7 = .ok (.getfield 84, 3) := by decide +kernel
theorem dX0_force_10 : decode cX0_force 10 = .ok (.invokevirtual 93, 3) := by decide +kernel
theorem dX0_force_13 : decode cX0_force 13 = .ok (.aload_n 0, 1) := by decide +kernel
theorem dX0_force_14 : decode cX0_force 14 = .ok (.getfield 96, 3) := by decide +kernel
theorem dX0_force_17 : decode cX0_force 17 = .ok (.istore_n 2, 1) := by decide +kernel
theorem dX0_force_18 : decode cX0_force 18 = .ok (.aload_n 0, 1) := by decide +kernel
theorem dX0_force_19 : decode cX0_force 19 = .ok (.getfield 96, 3) := by decide +kernel
theorem dX0_force_22 : decode cX0_force 22 = .ok (.iload_n 1, 1) := by decide +kernel
theorem dX0_force_23 : decode cX0_force 23 = .ok (.if_icmp .ge 25, 3) := by decide +kernel
theorem dX0_force_26 : decode cX0_force 26 = .ok (.aload_n 0, 1) := by decide +kernel
theorem dX0_force_27 : decode cX0_force 27 = .ok (.invokevirtual 99, 3) := by decide +kernel
theorem dX0_force_30 : decode cX0_force 30 = .ok (.ifCond .ne 5, 3) := by decide +kernel
theorem dX0_force_33 : decode cX0_force 33 = .ok (.iconst (-1), 1) := by decide +kernel
theorem dX0_force_34 : decode cX0_force 34 = .ok (.ireturn, 1) := by decide +kernel
theorem dX0_force_35 : decode cX0_force 35 = .ok (.aload_n 0, 1) := by decide +kernel
theorem dX0_force_36 : decode cX0_force 36 = .ok (.dup, 1) := by decide +kernel
theorem dX0_force_37 : decode cX0_force 37 = .ok (.getfield 96, 3) := by decide +kernel
theorem dX0_force_40 : decode cX0_force 40 = .ok (.iconst 1, 1) := by decide +kernel
theorem dX0_force_41 : decode cX0_force 41 = .ok (.iadd, 1) := by decide +kernel
theorem dX0_force_42 : decode cX0_force 42 = .ok (.putfield 96, 3) := by decide +kernel
theorem dX0_force_45 : decode cX0_force 45 = .ok (.goto (-27), 3) := by decide +kernel
theorem dX0_force_48 : decode cX0_force 48 = .ok (.aload_n 0, 1) := by decide +kernel
theorem dX0_force_49 : decode cX0_force 49 = .ok (.getfield 96, 3) := by decide +kernel
theorem dX0_force_52 : decode cX0_force 52 = .ok (.iload_n 2, 1) := by decide +kernel
theorem dX0_force_53 : decode cX0_force 53 = .ok (.isub, 1) := by decide +kernel
theorem dX0_force_54 : decode cX0_force 54 = .ok (.ireturn, 1) := by decide +kernel
set_option maxRecDepth 20000 in
theorem ggX0_readLog_X0_needPower : GoodIn wsX0_readLog wsX0_needPower := goodIn_ca (goodIn_r _ [8, 9, 10, 11, 26, 27, 28, 29, 30, 31, 32, 33, 34, 35, 36, 37, 38] (by decide +kernel) (by decide +kernel)) (goodIn_sub (fun _ h => List.mem_cons_of_mem _ (List.mem_append_left _ (List.mem_append_right _ h))) (by decide +kernel))
set_option maxRecDepth 20000 in
theorem gX0_readLog_X0_needPower : GoodIn wsX0_readLog (wsV RX0 39 RX0 yX0_needPower wsX0_needPower) := goodIn_app (goodIn_of _ (by decide +kernel)) ggX0_readLog_X0_needPower
set_option maxRecDepth 20000 in
theorem ggX0_readLog_X0_needWordCount : GoodIn wsX0_readLog wsX0_needWordCount := goodIn_ca (goodIn_r _ [14, 15, 16] (by decide +kernel) (by decide +kernel)) (goodIn_sub (fun _ h => List.mem_cons_of_mem _ (List.mem_append_right _ h)) (by decide +kernel))
set_option maxRecDepth 20000 in
theorem gX0_readLog_X0_needWordCount : GoodIn wsX0_readLog (va_wsS RX0 80 yX0_needWordCount wsX0_needWordCount) := goodIn_app (goodIn_of _ (by decide +kernel)) ggX0_readLog_X0_needWordCount
set_option maxRecDepth 20000 in
theorem ggX0_readLog_X0_needPlace : GoodIn wsX0_readLog wsX0_needPlace := goodIn_ca (goodIn_r _ [20, 15, 16, 21, 26, 27, 28, 29, 30, 31, 32, 33, 34, 35, 36, 37, 38] (by decide +kernel) (by decide +kernel)) (goodIn_sub (fun _ h => List.mem_cons_of_mem _ (List.mem_append_right _ h)) (by decide +kernel))
set_option maxRecDepth 20000 in
theorem gX0_readLog_X0_needPlace : GoodIn wsX0_readLog (wsV RX0 93 RX0 yX0_needPlace wsX0_needPlace) := goodIn_app (goodIn_of _ (by decide +kernel)) ggX0_readLog_X0_needPlace
set_option maxRecDepth 20000 in
theorem ggX0_readLog_X0_logSlot : GoodIn wsX0_readLog wsX0_logSlot := goodIn_r _ [24, 25] (by decide +kernel) (by decide +kernel)
set_option maxRecDepth 20000 in
theorem gX0_readLog_X0_logSlot : GoodIn wsX0_readLog (va_wsS RX0 90 yX0_logSlot wsX0_logSlot) := goodIn_app (goodIn_of _ (by decide +kernel)) ggX0_readLog_X0_logSlot
theorem dX0_readLog_0 : decode cX0_readLog 0 = .ok (.aload_n 0, 1) := by decide +kernel
theorem dX0_readLog_1 : decode cX0_readLog 1 = .ok (.invokevirtual 39, 3) := by decide +kernel
theorem dX0_readLog_4 : decode cX0_readLog 4 = .ok (.iload_n 2, 1) := by decide +kernel
theorem dX0_readLog_5 : decode cX0_readLog 5 = .ok (.invokestatic 80, 3) := by decide +kernel
theorem dX0_readLog_8 : decode cX0_readLog 8 = .ok (.aload_n 0, 1) := by decide +kernel
theorem dX0_readLog_9 : decode cX0_readLog 9 = .ok (.iload_n 1, 1) := by decide +kernel
theorem dX0_readLog_10 : decode cX0_readLog 10 = .ok (.aload_n 0, 1) := by decide +kernel
theorem dX0_readLog_11 : decode cX0_readLog 11 = .ok (.getfield 84, 3) := by decide +kernel
theorem dX0_readLog_14 : decode cX0_readLog 14 = .ok (.iload_n 2, 1) := by decide +kernel
theorem dX0_readLog_15 : decode cX0_readLog 15 = .ok (.isub, 1) := by decide +kernel
theorem dX0_readLog_16 : decode cX0_readLog 16 = .ok (.invokevirtual 93, 3) := by decide +kernel
theorem dX0_readLog_19 : decode cX0_readLog 19 = .ok (.iconst 0, 1) := by decide +kernel
theorem dX0_readLog_20 : decode cX0_readLog 20 = .ok (.istore_n 3, 1) := by decide +kernel
theorem dX0_readLog_21 : decode cX0_readLog 21 = .ok (.iload_n 3, 1) := by decide +kernel
theorem dX0_readLog_22 : decode cX0_readLog 22 = .ok (.iload_n 2, 1) := by decide +kernel
theorem dX0_readLog_23 : decode cX0_readLog 23 = .ok (.if_icmp .ge 26, 3) := by decide +kernel
theorem dX0_readLog_26 : decode cX0_readLog 26 = .ok (.aload_n 0, 1) := by decide +kernel
theorem dX0_readLog_27 : decode cX0_readLog 27 = .ok (.getfield 9, 3) := by decide +kernel
theorem dX0_readLog_30 : decode cX0_readLog 30 = .ok (.iload_n 3, 1) := by decide +kernel
theorem dX0_readLog_31 : decode cX0_readLog 31 = .ok (.aload_n 0, 1) := by decide +kernel
theorem dX0_readLog_32 : decode cX0_readLog 32 = .ok (.getfield 25, 3) := by decide +kernel
theorem dX0_readLog_35 : decode cX0_readLog 35 = .ok (.iload_n 1, 1) := by decide +kernel
theorem dX0_readLog_36 : decode cX0_readLog 36 = .ok (.iload_n 3, 1) := by decide +kernel
theorem dX0_readLog_37 : decode cX0_readLog 37 = .ok (.iadd, 1) := by decide +kernel
theorem dX0_readLog_38 : decode cX0_readLog 38 = .ok (.invokestatic 90, 3) := by decide +kernel
theorem dX0_readLog_41 : decode cX0_readLog 41 = .ok (.iaload, 1) := by decide +kernel
theorem dX0_readLog_42 : decode cX0_readLog 42 = .ok (.iastore, 1) := by decide +kernel
theorem dX0_readLog_43 : decode cX0_readLog 43 = .ok (.iinc 3 1, 3) := by decide +kernel
theorem dX0_readLog_46 : decode cX0_readLog 46 = .ok (.goto (-25), 3) := by decide +kernel
theorem dX0_readLog_49 : decode cX0_readLog 49 = .ok (.return_, 1) := by decide +kernel
set_option maxRecDepth 20000 in
theorem ggX0_giveBack_X0_needPower : GoodIn wsX0_giveBack wsX0_needPower := goodIn_ca (goodIn_r _ [7, 8, 9, 10, 17, 18, 19, 20, 21, 22, 23, 24, 25, 26, 27, 28, 29] (by decide +kernel) (by decide +kernel)) (goodIn_sub (fun _ h => List.mem_cons_of_mem _ (List.mem_append_left _ (List.mem_append_right _ h))) (by decide +kernel))
set_option maxRecDepth 20000 in
theorem gX0_giveBack_X0_needPower : GoodIn wsX0_giveBack (wsV RX0 39 RX0 yX0_needPower wsX0_needPower) := goodIn_app (goodIn_of _ (by decide +kernel)) ggX0_giveBack_X0_needPower
set_option maxRecDepth 20000 in
theorem ggX0_giveBack_X0_needPlace : GoodIn wsX0_giveBack wsX0_needPlace := goodIn_ca (goodIn_r _ [14, 15, 16, 2, 17, 18, 19, 20, 21, 22, 23, 24, 25, 26, 27, 28, 29] (by decide +kernel) (by decide +kernel)) (goodIn_sub (fun _ h => List.mem_cons_of_mem _ (List.mem_append_right _ h)) (by decide +kernel))
set_option maxRecDepth 20000 in
theorem gX0_giveBack_X0_needPlace : GoodIn wsX0_giveBack (wsV RX0 93 RX0 yX0_needPlace wsX0_needPlace) := goodIn_app (goodIn_of _ (by decide +kernel)) ggX0_giveBack_X0_needPlace
theorem dX0_giveBack_0 : decode cX0_giveBack 0 = .ok (.aload_n 0, 1) := by decide +kernel
theorem dX0_giveBack_1 : decode cX0_giveBack 1 = .ok (.invokevirtual 39, 3) := by decide +kernel
theorem dX0_giveBack_4 : decode cX0_giveBack 4 = .ok (.aload_n 0, 1) := by decide +kernel
theorem dX0_giveBack_5 : decode cX0_giveBack 5 = .ok (.iload_n 1, 1) := by decide +kernel
theorem dX0_giveBack_6 : decode cX0_giveBack 6 = .ok (.aload_n 0, 1) := by decide +kernel
theorem dX0_giveBack_7 : decode cX0_giveBack 7 = .ok (.getfield 96, 3) := by decide +kernel
theorem dX0_giveBack_10 : decode cX0_giveBack 10 = .ok (.invokevirtual 93, 3) := by decide +kernel
theorem dX0_giveBack_13 : decode cX0_giveBack 13 = .ok (.aload_n 0, 1) := by decide +kernel
theorem dX0_giveBack_14 : decode cX0_giveBack 14 = .ok (.iload_n 1, 1) := by decide +kernel
theorem dX0_giveBack_15 : decode cX0_giveBack 15 = .ok (.putfield 87, 3) := by decide +kernel
theorem dX0_giveBack_18 : decode cX0_giveBack 18 = .ok (.return_, 1) := by decide +kernel
theorem dX0_log_0 : decode cX0_log 0 = .ok (.iload_n 1, 1) := by decide +kernel
theorem dX0_log_1 : decode cX0_log 1 = .ok (.tableswitch 42 0 2 #[27, 32, 37], 27) := by decide +kernel
theorem dX0_log_28 : decode cX0_log 28 = .ok (.aload_n 0, 1) := by decide +kernel
theorem dX0_log_29 : decode cX0_log 29 = .ok (.getfield 87, 3) := by decide +kernel
theorem dX0_log_32 : decode cX0_log 32 = .ok (.ireturn, 1) := by decide +kernel
theorem dX0_log_33 : decode cX0_log 33 = .ok (.aload_n 0, 1) := by decide +kernel
theorem dX0_log_34 : decode cX0_log 34 = .ok (.getfield 96, 3) := by decide +kernel
theorem dX0_log_37 : decode cX0_log 37 = .ok (.ireturn, 1) := by decide +kernel
theorem dX0_log_38 : decode cX0_log 38 = .ok (.aload_n 0, 1) := by decide +kernel
theorem dX0_log_39 : decode cX0_log 39 = .ok (.getfield 84, 3) := by decide +kernel
theorem dX0_log_42 : decode cX0_log 42 = .ok (.ireturn, 1) := by decide +kernel
theorem dX0_log_43 : decode cX0_log 43 = .ok (.new 103, 3) := by decide +kernel
theorem dX0_log_46 : decode cX0_log 46 = .ok (.dup, 1) := by decide +kernel
theorem dX0_log_47 : decode cX0_log 47 = .ok (.ldc 105, 2) := by decide +kernel
theorem dX0_log_49 : decode cX0_log 49 = .ok (.invokespecial 107, 3) := by decide +kernel
theorem dX0_log_52 : decode cX0_log 52 = .ok (.athrow, 1) := by decide +kernel
set_option maxRecDepth 20000 in
theorem ggX0_setRoot_X0_needPower : GoodIn wsX0_setRoot wsX0_needPower := goodIn_ca (goodIn_r _ [6, 7, 8, 9, 32, 33, 34, 35, 36, 37, 38, 39, 40, 41, 42, 43, 44] (by decide +kernel) (by decide +kernel)) (goodIn_sub (fun _ h => List.mem_cons_of_mem _ (List.mem_append_left _ (List.mem_append_right _ h))) (by decide +kernel))
set_option maxRecDepth 20000 in
theorem gX0_setRoot_X0_needPower : GoodIn wsX0_setRoot (wsV RX0 39 RX0 yX0_needPower wsX0_needPower) := goodIn_app (goodIn_of _ (by decide +kernel)) ggX0_setRoot_X0_needPower
set_option maxRecDepth 20000 in
theorem ggX0_setRoot_X0_needIndex : GoodIn wsX0_setRoot wsX0_needIndex := goodIn_ca (goodIn_r _ [12, 13, 14] (by decide +kernel) (by decide +kernel)) (goodIn_sub (fun _ h => List.mem_cons_of_mem _ (List.mem_append_right _ h)) (by decide +kernel))
set_option maxRecDepth 20000 in
theorem gX0_setRoot_X0_needIndex : GoodIn wsX0_setRoot (va_wsS RX0 42 yX0_needIndex wsX0_needIndex) := goodIn_app (goodIn_of _ (by decide +kernel)) ggX0_setRoot_X0_needIndex
set_option maxRecDepth 20000 in
theorem ggX0_setRoot_X0_makeLeastWrite : GoodIn wsX0_setRoot wsX0_makeLeastWrite := goodIn_r _ [18, 19, 20, 21, 22, 23, 5, 24, 9, 25, 26, 27, 28, 29, 30, 31, 32, 33, 34, 35, 36, 37, 38, 39, 40, 41, 42, 43, 44] (by decide +kernel) (by decide +kernel)
set_option maxRecDepth 20000 in
theorem gX0_setRoot_X0_makeLeastWrite : GoodIn wsX0_setRoot (wsV RX0 99 RX0 yX0_makeLeastWrite wsX0_makeLeastWrite) := goodIn_app (goodIn_of _ (by decide +kernel)) ggX0_setRoot_X0_makeLeastWrite
theorem dX0_setRoot_0 : decode cX0_setRoot 0 = .ok (.aload_n 0, 1) := by decide +kernel
theorem dX0_setRoot_1 : decode cX0_setRoot 1 = .ok (.invokevirtual 39, 3) := by decide +kernel
theorem dX0_setRoot_4 : decode cX0_setRoot 4 = .ok (.iload_n 1, 1) := by decide +kernel
theorem dX0_setRoot_5 : decode cX0_setRoot 5 = .ok (.iconst 4, 1) := by decide +kernel
theorem dX0_setRoot_6 : decode cX0_setRoot 6 = .ok (.invokestatic 42, 3) := by decide +kernel
theorem dX0_setRoot_9 : decode cX0_setRoot 9 = .ok (.aload_n 0, 1) := by decide +kernel
theorem dX0_setRoot_10 : decode cX0_setRoot 10 = .ok (.invokevirtual 99, 3) := by decide +kernel
theorem dX0_setRoot_13 : decode cX0_setRoot 13 = .ok (.ifCond .ne 5, 3) := by decide +kernel
theorem dX0_setRoot_16 : decode cX0_setRoot 16 = .ok (.iconst 0, 1) := by decide +kernel
theorem dX0_setRoot_17 : decode cX0_setRoot 17 = .ok (.ireturn, 1) := by decide +kernel
theorem dX0_setRoot_18 : decode cX0_setRoot 18 = .ok (.aload_n 0, 1) := by decide +kernel
theorem dX0_setRoot_19 : decode cX0_setRoot 19 = .ok (.getfield 28, 3) := by decide +kernel
theorem dX0_setRoot_22 : decode cX0_setRoot 22 = .ok (.iload_n 1, 1) := by decide +kernel
theorem dX0_setRoot_23 : decode cX0_setRoot 23 = .ok (.iload_n 2, 1) := by decide +kernel
theorem dX0_setRoot_24 : decode cX0_setRoot 24 = .ok (.iastore, 1) := by decide +kernel
theorem dX0_setRoot_25 : decode cX0_setRoot 25 = .ok (.iconst 1, 1) := by decide +kernel
theorem dX0_setRoot_26 : decode cX0_setRoot 26 = .ok (.ireturn, 1) := by decide +kernel
set_option maxRecDepth 20000 in
theorem ggX0_root_X0_needIndex : GoodIn wsX0_root wsX0_needIndex := goodIn_ca (goodIn_r _ [5, 6, 7] (by decide +kernel) (by decide +kernel)) (goodIn_sub (fun _ h => List.mem_cons_of_mem _ (List.mem_append_right _ h)) (by decide +kernel))
set_option maxRecDepth 20000 in
theorem gX0_root_X0_needIndex : GoodIn wsX0_root (va_wsS RX0 42 yX0_needIndex wsX0_needIndex) := goodIn_app (goodIn_of _ (by decide +kernel)) ggX0_root_X0_needIndex
theorem dX0_root_0 : decode cX0_root 0 = .ok (.iload_n 1, 1) := by decide +kernel
theorem dX0_root_1 : decode cX0_root 1 = .ok (.iconst 4, 1) := by decide +kernel
theorem dX0_root_2 : decode cX0_root 2 = .ok (.invokestatic 42, 3) := by decide +kernel
theorem dX0_root_5 : decode cX0_root 5 = .ok (.aload_n 0, 1) := by decide +kernel
theorem dX0_root_6 : decode cX0_root 6 = .ok (.getfield 28, 3) := by decide +kernel
theorem dX0_root_9 : decode cX0_root 9 = .ok (.iload_n 1, 1) := by decide +kernel
theorem dX0_root_10 : decode cX0_root 10 = .ok (.iaload, 1) := by decide +kernel
theorem dX0_root_11 : decode cX0_root 11 = .ok (.ireturn, 1) := by decide +kernel
theorem dX0_writes_0 : decode cX0_writes 0 = .ok (.aload_n 0, 1) := by decide +kernel
theorem dX0_writes_1 : decode cX0_writes 1 = .ok (.getfield 108, 3) := by decide +kernel
theorem dX0_writes_4 : decode cX0_writes 4 = .ok (.ireturn, 1) := by decide +kernel
theorem dX0_cutAfter_0 : decode cX0_cutAfter 0 = .ok (.iload_n 1, 1) := by decide +kernel
theorem dX0_cutAfter_1 : decode cX0_cutAfter 1 = .ok (.iconst (-1), 1) := by decide +kernel
theorem dX0_cutAfter_2 : decode cX0_cutAfter 2 = .ok (.if_icmp .ge 13, 3) := by decide +kernel
theorem dX0_cutAfter_5 : decode cX0_cutAfter 5 = .ok (.new 111, 3) := by decide +kernel
theorem dX0_cutAfter_8 : decode cX0_cutAfter 8 = .ok (.dup, 1) := by decide +kernel
theorem dX0_cutAfter_9 : decode cX0_cutAfter 9 = .ok (.ldc 113, 2) := by decide +kernel
theorem dX0_cutAfter_11 : decode cX0_cutAfter 11 = .ok (.invokespecial 115, 3) := by decide +kernel
theorem dX0_cutAfter_14 : decode cX0_cutAfter 14 = .ok (.athrow, 1) := by decide +kernel
theorem dX0_cutAfter_15 : decode cX0_cutAfter 15 = .ok (.aload_n 0, 1) := by decide +kernel
theorem dX0_cutAfter_16 : decode cX0_cutAfter 16 = .ok (.iload_n 1, 1) := by decide +kernel
theorem dX0_cutAfter_17 : decode cX0_cutAfter 17 = .ok (.putfield 35, 3) := by decide +kernel
theorem dX0_cutAfter_20 : decode cX0_cutAfter 20 = .ok (.return_, 1) := by decide +kernel
set_option maxRecDepth 20000 in
theorem ggX0_cut_X0_failPower : GoodIn wsX0_cut wsX0_failPower := goodIn_r _ [6, 1, 7, 8, 9, 10, 11, 12, 13, 14, 15, 16, 17, 18, 19, 20, 21, 22, 23, 24, 25, 26] (by decide +kernel) (by decide +kernel)
set_option maxRecDepth 20000 in
theorem gX0_cut_X0_failPower : GoodIn wsX0_cut (wsV RX0 116 RX0 yX0_failPower wsX0_failPower) := goodIn_app (goodIn_of _ (by decide +kernel)) ggX0_cut_X0_failPower
theorem dX0_cut_0 : decode cX0_cut 0 = .ok (.aload_n 0, 1) := by decide +kernel
theorem dX0_cut_1 : decode cX0_cut 1 = .ok (.getfield 31, 3) := by decide +kernel
theorem dX0_cut_4 : decode cX0_cut 4 = .ok (.ifCond .ne 5, 3) := by decide +kernel
theorem dX0_cut_7 : decode cX0_cut 7 = .ok (.iconst 0, 1) := by decide +kernel
theorem dX0_cut_8 : decode cX0_cut 8 = .ok (.ireturn, 1) := by decide +kernel
theorem dX0_cut_9 : decode cX0_cut 9 = .ok (.aload_n 0, 1) := by decide +kernel
theorem dX0_cut_10 : decode cX0_cut 10 = .ok (.invokevirtual 116, 3) := by decide +kernel
theorem dX0_cut_13 : decode cX0_cut 13 = .ok (.iconst 1, 1) := by decide +kernel
theorem dX0_cut_14 : decode cX0_cut 14 = .ok (.ireturn, 1) := by decide +kernel
theorem dX0_start_0 : decode cX0_start 0 = .ok (.aload_n 0, 1) := by decide +kernel
theorem dX0_start_1 : decode cX0_start 1 = .ok (.getfield 31, 3) := by decide +kernel
theorem dX0_start_4 : decode cX0_start 4 = .ok (.ifCond .eq 5, 3) := by decide +kernel
theorem dX0_start_7 : decode cX0_start 7 = .ok (.iconst 0, 1) := by decide +kernel
theorem dX0_start_8 : decode cX0_start 8 = .ok (.ireturn, 1) := by decide +kernel
theorem dX0_start_9 : decode cX0_start 9 = .ok (.aload_n 0, 1) := by decide +kernel
theorem dX0_start_10 : decode cX0_start 10 = .ok (.iconst 1, 1) := by decide +kernel
theorem dX0_start_11 : decode cX0_start 11 = .ok (.putfield 31, 3) := by decide +kernel
theorem dX0_start_14 : decode cX0_start 14 = .ok (.aload_n 0, 1) := by decide +kernel
theorem dX0_start_15 : decode cX0_start 15 = .ok (.iconst (-1), 1) := by decide +kernel
theorem dX0_start_16 : decode cX0_start 16 = .ok (.putfield 35, 3) := by decide +kernel
theorem dX0_start_19 : decode cX0_start 19 = .ok (.iconst 1, 1) := by decide +kernel
theorem dX0_start_20 : decode cX0_start 20 = .ok (.ireturn, 1) := by decide +kernel
theorem dX0_isOn_0 : decode cX0_isOn 0 = .ok (.aload_n 0, 1) := by decide +kernel
theorem dX0_isOn_1 : decode cX0_isOn 1 = .ok (.getfield 31, 3) := by decide +kernel
theorem dX0_isOn_4 : decode cX0_isOn 4 = .ok (.ireturn, 1) := by decide +kernel
theorem dX0_needPower_0 : decode cX0_needPower 0 = .ok (.aload_n 0, 1) := by decide +kernel
theorem dX0_needPower_1 : decode cX0_needPower 1 = .ok (.getfield 31, 3) := by decide +kernel
theorem dX0_needPower_4 : decode cX0_needPower 4 = .ok (.ifCond .ne 13, 3) := by decide +kernel
theorem dX0_needPower_7 : decode cX0_needPower 7 = .ok (.new 73, 3) := by decide +kernel
theorem dX0_needPower_10 : decode cX0_needPower 10 = .ok (.dup, 1) := by decide +kernel
theorem dX0_needPower_11 : decode cX0_needPower 11 = .ok (.ldc 119, 2) := by decide +kernel
theorem dX0_needPower_13 : decode cX0_needPower 13 = .ok (.invokespecial 77, 3) := by decide +kernel
theorem dX0_needPower_16 : decode cX0_needPower 16 = .ok (.athrow, 1) := by decide +kernel
theorem dX0_needPower_17 : decode cX0_needPower 17 = .ok (.return_, 1) := by decide +kernel
theorem dX0_needIndex_0 : decode cX0_needIndex 0 = .ok (.iload_n 0, 1) := by decide +kernel
theorem dX0_needIndex_1 : decode cX0_needIndex 1 = .ok (.ifCond .lt 8, 3) := by decide +kernel
theorem dX0_needIndex_4 : decode cX0_needIndex 4 = .ok (.iload_n 0, 1) := by decide +kernel
theorem dX0_needIndex_5 : decode cX0_needIndex 5 = .ok (.iload_n 1, 1) := by decide +kernel
theorem dX0_needIndex_6 : decode cX0_needIndex 6 = .ok (.if_icmp .lt 13, 3) := by decide +kernel
theorem dX0_needIndex_9 : decode cX0_needIndex 9 = .ok (.new 103, 3) := by decide +kernel
theorem dX0_needIndex_12 : decode cX0_needIndex 12 = .ok (.dup, 1) := by decide +kernel
theorem dX0_needIndex_13 : decode cX0_needIndex 13 = .ok (.ldc 121, 2) := by decide +kernel
theorem dX0_needIndex_15 : decode cX0_needIndex 15 = .ok (.invokespecial 107, 3) := by decide +kernel
theorem dX0_needIndex_18 : decode cX0_needIndex 18 = .ok (.athrow, 1) := by decide +kernel
theorem dX0_needIndex_19 : decode cX0_needIndex 19 = .ok (.return_, 1) := by decide +kernel
set_option maxRecDepth 20000 in
theorem ggX0_needPage_X0_needIndex : GoodIn wsX0_needPage wsX0_needIndex := goodIn_ca (goodIn_r _ [4, 5, 6] (by decide +kernel) (by decide +kernel)) (goodIn_sub (fun _ h => List.mem_cons_of_mem _ (List.mem_append_right _ h)) (by decide +kernel))
set_option maxRecDepth 20000 in
theorem gX0_needPage_X0_needIndex : GoodIn wsX0_needPage (va_wsS RX0 42 yX0_needIndex wsX0_needIndex) := goodIn_app (goodIn_of _ (by decide +kernel)) ggX0_needPage_X0_needIndex
theorem dX0_needPage_0 : decode cX0_needPage 0 = .ok (.iload_n 1, 1) := by decide +kernel
theorem dX0_needPage_1 : decode cX0_needPage 1 = .ok (.iconst 2, 1) := by decide +kernel
theorem dX0_needPage_2 : decode cX0_needPage 2 = .ok (.invokestatic 42, 3) := by decide +kernel
theorem dX0_needPage_5 : decode cX0_needPage 5 = .ok (.iload_n 2, 1) := by decide +kernel
theorem dX0_needPage_6 : decode cX0_needPage 6 = .ok (.sipush 256, 3) := by decide +kernel
theorem dX0_needPage_9 : decode cX0_needPage 9 = .ok (.invokestatic 42, 3) := by decide +kernel
theorem dX0_needPage_12 : decode cX0_needPage 12 = .ok (.return_, 1) := by decide +kernel
theorem dX0_needWordCount_0 : decode cX0_needWordCount 0 = .ok (.iload_n 0, 1) := by decide +kernel
theorem dX0_needWordCount_1 : decode cX0_needWordCount 1 = .ok (.iconst 1, 1) := by decide +kernel
theorem dX0_needWordCount_2 : decode cX0_needWordCount 2 = .ok (.if_icmp .lt 9, 3) := by decide +kernel
theorem dX0_needWordCount_5 : decode cX0_needWordCount 5 = .ok (.iload_n 0, 1) := by decide +kernel
theorem dX0_needWordCount_6 : decode cX0_needWordCount 6 = .ok (.bipush 64, 2) := by decide +kernel
theorem dX0_needWordCount_8 : decode cX0_needWordCount 8 = .ok (.if_icmp .le 13, 3) := by decide +kernel
theorem dX0_needWordCount_11 : decode cX0_needWordCount 11 = .ok (.new 111, 3) := by decide +kernel
theorem dX0_needWordCount_14 : decode cX0_needWordCount 14 = .ok (.dup, 1) := by decide +kernel
theorem dX0_needWordCount_15 : decode cX0_needWordCount 15 = .ok (.ldc 123, 2) := by decide +kernel
theorem dX0_needWordCount_17 : decode cX0_needWordCount 17 = .ok (.invokespecial 115, 3) := by decide +kernel
theorem dX0_needWordCount_20 : decode cX0_needWordCount 20 = .ok (.athrow, 1) := by decide +kernel
theorem dX0_needWordCount_21 : decode cX0_needWordCount 21 = .ok (.return_, 1) := by decide +kernel
theorem dX0_needPlace_0 : decode cX0_needPlace 0 = .ok (.iload_n 1, 1) := by decide +kernel
theorem dX0_needPlace_1 : decode cX0_needPlace 1 = .ok (.aload_n 0, 1) := by decide +kernel
theorem dX0_needPlace_2 : decode cX0_needPlace 2 = .ok (.getfield 87, 3) := by decide +kernel
theorem dX0_needPlace_5 : decode cX0_needPlace 5 = .ok (.if_icmp .lt 8, 3) := by decide +kernel
theorem dX0_needPlace_8 : decode cX0_needPlace 8 = .ok (.iload_n 1, 1) := by decide +kernel
theorem dX0_needPlace_9 : decode cX0_needPlace 9 = .ok (.iload_n 2, 1) := by decide +kernel
theorem dX0_needPlace_10 : decode cX0_needPlace 10 = .ok (.if_icmp .le 13, 3) := by decide +kernel
theorem dX0_needPlace_13 : decode cX0_needPlace 13 = .ok (.new 111, 3) := by decide +kernel
theorem dX0_needPlace_16 : decode cX0_needPlace 16 = .ok (.dup, 1) := by decide +kernel
theorem dX0_needPlace_17 : decode cX0_needPlace 17 = .ok (.ldc 125, 2) := by decide +kernel
theorem dX0_needPlace_19 : decode cX0_needPlace 19 = .ok (.invokespecial 115, 3) := by decide +kernel
theorem dX0_needPlace_22 : decode cX0_needPlace 22 = .ok (.athrow, 1) := by decide +kernel
theorem dX0_needPlace_23 : decode cX0_needPlace 23 = .ok (.return_, 1) := by decide +kernel
theorem dX0_pageIndex_0 : decode cX0_pageIndex 0 = .ok (.iload_n 0, 1) := by decide +kernel
theorem dX0_pageIndex_1 : decode cX0_pageIndex 1 = .ok (.sipush 256, 3) := by decide +kernel
theorem dX0_pageIndex_4 : decode cX0_pageIndex 4 = .ok (.imul, 1) := by decide +kernel
theorem dX0_pageIndex_5 : decode cX0_pageIndex 5 = .ok (.iload_n 1, 1) := by decide +kernel
theorem dX0_pageIndex_6 : decode cX0_pageIndex 6 = .ok (.iadd, 1) := by decide +kernel
theorem dX0_pageIndex_7 : decode cX0_pageIndex 7 = .ok (.ireturn, 1) := by decide +kernel
theorem dX0_logSlot_0 : decode cX0_logSlot 0 = .ok (.iload_n 0, 1) := by decide +kernel
theorem dX0_logSlot_1 : decode cX0_logSlot 1 = .ok (.ldc 127, 2) := by decide +kernel
theorem dX0_logSlot_3 : decode cX0_logSlot 3 = .ok (.iand, 1) := by decide +kernel
theorem dX0_logSlot_4 : decode cX0_logSlot 4 = .ok (.ireturn, 1) := by decide +kernel
theorem dX0_pageState_0 : decode cX0_pageState 0 = .ok (.aload_n 0, 1) := by decide +kernel
theorem dX0_pageState_1 : decode cX0_pageState 1 = .ok (.getfield 20, 3) := by decide +kernel
theorem dX0_pageState_4 : decode cX0_pageState 4 = .ok (.iload_n 1, 1) := by decide +kernel
theorem dX0_pageState_5 : decode cX0_pageState 5 = .ok (.baload, 1) := by decide +kernel
theorem dX0_pageState_6 : decode cX0_pageState 6 = .ok (.ifCond .eq 5, 3) := by decide +kernel
theorem dX0_pageState_9 : decode cX0_pageState 9 = .ok (.iconst 2, 1) := by decide +kernel
theorem dX0_pageState_10 : decode cX0_pageState 10 = .ok (.ireturn, 1) := by decide +kernel
theorem dX0_pageState_11 : decode cX0_pageState 11 = .ok (.aload_n 0, 1) := by decide +kernel
theorem dX0_pageState_12 : decode cX0_pageState 12 = .ok (.getfield 17, 3) := by decide +kernel
theorem dX0_pageState_15 : decode cX0_pageState 15 = .ok (.iload_n 1, 1) := by decide +kernel
theorem dX0_pageState_16 : decode cX0_pageState 16 = .ok (.iconst 2, 1) := by decide +kernel
theorem dX0_pageState_17 : decode cX0_pageState 17 = .ok (.imul, 1) := by decide +kernel
theorem dX0_pageState_18 : decode cX0_pageState 18 = .ok (.iaload, 1) := by decide +kernel
theorem dX0_pageState_19 : decode cX0_pageState 19 = .ok (.aload_n 0, 1) := by decide +kernel
theorem dX0_pageState_20 : decode cX0_pageState 20 = .ok (.getfield 17, 3) := by decide +kernel
theorem dX0_pageState_23 : decode cX0_pageState 23 = .ok (.iload_n 1, 1) := by decide +kernel
theorem dX0_pageState_24 : decode cX0_pageState 24 = .ok (.iconst 2, 1) := by decide +kernel
theorem dX0_pageState_25 : decode cX0_pageState 25 = .ok (.imul, 1) := by decide +kernel
theorem dX0_pageState_26 : decode cX0_pageState 26 = .ok (.iconst 1, 1) := by decide +kernel
theorem dX0_pageState_27 : decode cX0_pageState 27 = .ok (.iadd, 1) := by decide +kernel
theorem dX0_pageState_28 : decode cX0_pageState 28 = .ok (.iaload, 1) := by decide +kernel
theorem dX0_pageState_29 : decode cX0_pageState 29 = .ok (.if_icmp .ne 7, 3) := by decide +kernel
theorem dX0_pageState_32 : decode cX0_pageState 32 = .ok (.iconst 0, 1) := by decide +kernel
theorem dX0_pageState_33 : decode cX0_pageState 33 = .ok (.goto 4, 3) := by decide +kernel
theorem dX0_pageState_36 : decode cX0_pageState 36 = .ok (.iconst 1, 1) := by decide +kernel
theorem dX0_pageState_37 : decode cX0_pageState 37 = .ok (.ireturn, 1) := by decide +kernel
set_option maxRecDepth 20000 in
theorem ggX0_writePage_X0_makeLeastWrite : GoodIn wsX0_writePage wsX0_makeLeastWrite := goodIn_r _ [13, 14, 15, 16, 17, 18, 12, 19, 20, 21, 22, 23, 24, 25, 26, 27, 28, 29, 30, 31, 32, 33, 34, 35, 36, 37, 38, 39, 40] (by decide +kernel) (by decide +kernel)
set_option maxRecDepth 20000 in
theorem gX0_writePage_X0_makeLeastWrite : GoodIn wsX0_writePage (wsV RX0 99 RX0 yX0_makeLeastWrite wsX0_makeLeastWrite) := goodIn_app (goodIn_of _ (by decide +kernel)) ggX0_writePage_X0_makeLeastWrite
theorem dX0_writePage_0 : decode cX0_writePage 0 = .ok (.aload_n 0, 1) := by decide +kernel
theorem dX0_writePage_1 : decode cX0_writePage 1 = .ok (.dup, 1) := by decide +kernel
theorem dX0_writePage_2 : decode cX0_writePage 2 = .ok (.getfield 128, 3) := by decide +kernel
theorem dX0_writePage_5 : decode cX0_writePage 5 = .ok (.iconst 1, 1) := by decide +kernel
theorem dX0_writePage_6 : decode cX0_writePage 6 = .ok (.iadd, 1) := by decide +kernel
theorem dX0_writePage_7 : decode cX0_writePage 7 = .ok (.putfield 128, 3) := by decide +kernel
theorem dX0_writePage_10 : decode cX0_writePage 10 = .ok (.iconst 0, 1) := by decide +kernel
theorem dX0_writePage_11 : decode cX0_writePage 11 = .ok (.istore 4, 2) := by decide +kernel
theorem dX0_writePage_13 : decode cX0_writePage 13 = .ok (.iload 4, 2) := by decide +kernel
theorem dX0_writePage_15 : decode cX0_writePage 15 = .ok (.iconst 2, 1) := by decide +kernel
theorem dX0_writePage_16 : decode cX0_writePage 16 = .ok (.if_icmp .ge 61, 3) := by decide +kernel
theorem dX0_writePage_19 : decode cX0_writePage 19 = .ok (.aload_n 0, 1) := by decide +kernel
theorem dX0_writePage_20 : decode cX0_writePage 20 = .ok (.invokevirtual 99, 3) := by decide +kernel
theorem dX0_writePage_23 : decode cX0_writePage 23 = .ok (.ifCond .ne 5, 3) := by decide +kernel
theorem dX0_writePage_26 : decode cX0_writePage 26 = .ok (.iconst (-1), 1) := by decide +kernel
theorem dX0_writePage_27 : decode cX0_writePage 27 = .ok (.ireturn, 1) := by decide +kernel
theorem dX0_writePage_28 : decode cX0_writePage 28 = .ok (.iload 4, 2) := by decide +kernel
theorem dX0_writePage_30 : decode cX0_writePage 30 = .ok (.bipush 32, 2) := by decide +kernel
theorem dX0_writePage_32 : decode cX0_writePage 32 = .ok (.imul, 1) := by decide +kernel
theorem dX0_writePage_33 : decode cX0_writePage 33 = .ok (.istore 5, 2) := by decide +kernel
theorem dX0_writePage_35 : decode cX0_writePage 35 = .ok (.aload_n 2, 1) := by decide +kernel
theorem dX0_writePage_36 : decode cX0_writePage 36 = .ok (.iload_n 3, 1) := by decide +kernel
theorem dX0_writePage_37 : decode cX0_writePage 37 = .ok (.iload 5, 2) := by decide +kernel
theorem dX0_writePage_39 : decode cX0_writePage 39 = .ok (.iadd, 1) := by decide +kernel
theorem dX0_writePage_40 : decode cX0_writePage 40 = .ok (.aload_n 0, 1) := by decide +kernel
theorem dX0_writePage_41 : decode cX0_writePage 41 = .ok (.getfield 14, 3) := by decide +kernel
theorem dX0_writePage_44 : decode cX0_writePage 44 = .ok (.iload_n 1, 1) := by decide +kernel
theorem dX0_writePage_45 : decode cX0_writePage 45 = .ok (.bipush 64, 2) := by decide +kernel
theorem dX0_writePage_47 : decode cX0_writePage 47 = .ok (.imul, 1) := by decide +kernel
theorem dX0_writePage_48 : decode cX0_writePage 48 = .ok (.iload 5, 2) := by decide +kernel
theorem dX0_writePage_50 : decode cX0_writePage 50 = .ok (.iadd, 1) := by decide +kernel
theorem dX0_writePage_51 : decode cX0_writePage 51 = .ok (.bipush 32, 2) := by decide +kernel
theorem dX0_writePage_53 : decode cX0_writePage 53 = .ok (.invokestatic 67, 3) := by decide +kernel
theorem dX0_writePage_56 : decode cX0_writePage 56 = .ok (.aload_n 0, 1) := by decide +kernel
theorem dX0_writePage_57 : decode cX0_writePage 57 = .ok (.getfield 17, 3) := by decide +kernel
theorem dX0_writePage_60 : decode cX0_writePage 60 = .ok (.iload_n 1, 1) := by decide +kernel
theorem dX0_writePage_61 : decode cX0_writePage 61 = .ok (.iconst 2, 1) := by decide +kernel
theorem dX0_writePage_62 : decode cX0_writePage 62 = .ok (.imul, 1) := by decide +kernel
theorem dX0_writePage_63 : decode cX0_writePage 63 = .ok (.iload 4, 2) := by decide +kernel
theorem dX0_writePage_65 : decode cX0_writePage 65 = .ok (.iadd, 1) := by decide +kernel
theorem dX0_writePage_66 : decode cX0_writePage 66 = .ok (.aload_n 0, 1) := by decide +kernel
theorem dX0_writePage_67 : decode cX0_writePage 67 = .ok (.getfield 128, 3) := by decide +kernel
theorem dX0_writePage_70 : decode cX0_writePage 70 = .ok (.iastore, 1) := by decide +kernel
theorem dX0_writePage_71 : decode cX0_writePage 71 = .ok (.iinc 4 1, 3) := by decide +kernel
theorem dX0_writePage_74 : decode cX0_writePage 74 = .ok (.goto (-61), 3) := by decide +kernel
theorem dX0_writePage_77 : decode cX0_writePage 77 = .ok (.aload_n 0, 1) := by decide +kernel
theorem dX0_writePage_78 : decode cX0_writePage 78 = .ok (.getfield 20, 3) := by decide +kernel
theorem dX0_writePage_81 : decode cX0_writePage 81 = .ok (.iload_n 1, 1) := by decide +kernel
theorem dX0_writePage_82 : decode cX0_writePage 82 = .ok (.iconst 0, 1) := by decide +kernel
theorem dX0_writePage_83 : decode cX0_writePage 83 = .ok (.bastore, 1) := by decide +kernel
theorem dX0_writePage_84 : decode cX0_writePage 84 = .ok (.aload_n 0, 1) := by decide +kernel
theorem dX0_writePage_85 : decode cX0_writePage 85 = .ok (.getfield 128, 3) := by decide +kernel
theorem dX0_writePage_88 : decode cX0_writePage 88 = .ok (.ireturn, 1) := by decide +kernel
set_option maxRecDepth 20000 in
theorem ggX0_makeLeastWrite_X0_failPower : GoodIn wsX0_makeLeastWrite wsX0_failPower := goodIn_r _ [7, 8, 9, 10, 11, 12, 13, 14, 15, 16, 17, 18, 19, 20, 21, 22, 23, 24, 25, 26, 27, 28] (by decide +kernel) (by decide +kernel)
set_option maxRecDepth 20000 in
theorem gX0_makeLeastWrite_X0_failPower : GoodIn wsX0_makeLeastWrite (wsV RX0 116 RX0 yX0_failPower wsX0_failPower) := goodIn_app (goodIn_of _ (by decide +kernel)) ggX0_makeLeastWrite_X0_failPower
theorem dX0_makeLeastWrite_0 : decode cX0_makeLeastWrite 0 = .ok (.aload_n 0, 1) := by decide +kernel
theorem dX0_makeLeastWrite_1 : decode cX0_makeLeastWrite 1 = .ok (.getfield 35, 3) := by decide +kernel
theorem dX0_makeLeastWrite_4 : decode cX0_makeLeastWrite 4 = .ok (.ifCond .ne 9, 3) := by decide +kernel
theorem dX0_makeLeastWrite_7 : decode cX0_makeLeastWrite 7 = .ok (.aload_n 0, 1) := by decide +kernel
theorem dX0_makeLeastWrite_8 : decode cX0_makeLeastWrite 8 = .ok (.invokevirtual 116, 3) := by decide +kernel
theorem dX0_makeLeastWrite_11 : decode cX0_makeLeastWrite 11 = .ok (.iconst 0, 1) := by decide +kernel
theorem dX0_makeLeastWrite_12 : decode cX0_makeLeastWrite 12 = .ok (.ireturn, 1) := by decide +kernel
theorem dX0_makeLeastWrite_13 : decode cX0_makeLeastWrite 13 = .ok (.aload_n 0, 1) := by decide +kernel
theorem dX0_makeLeastWrite_14 : decode cX0_makeLeastWrite 14 = .ok (.getfield 35, 3) := by decide +kernel
theorem dX0_makeLeastWrite_17 : decode cX0_makeLeastWrite 17 = .ok (.iconst (-1), 1) := by decide +kernel
theorem dX0_makeLeastWrite_18 : decode cX0_makeLeastWrite 18 = .ok (.if_icmp .eq 13, 3) := by decide +kernel
theorem dX0_makeLeastWrite_21 : decode cX0_makeLeastWrite 21 = .ok (.aload_n 0, 1) := by decide +kernel
theorem dX0_makeLeastWrite_22 : decode cX0_makeLeastWrite 22 = .ok (.dup, 1) := by decide +kernel
theorem dX0_makeLeastWrite_23 : decode cX0_makeLeastWrite 23 = .ok (.getfield 35, 3) := by decide +kernel
theorem dX0_makeLeastWrite_26 : decode cX0_makeLeastWrite 26 = .ok (.iconst 1, 1) := by decide +kernel
theorem dX0_makeLeastWrite_27 : decode cX0_makeLeastWrite 27 = .ok (.isub, 1) := by decide +kernel
theorem dX0_makeLeastWrite_28 : decode cX0_makeLeastWrite 28 = .ok (.putfield 35, 3) := by decide +kernel
theorem dX0_makeLeastWrite_31 : decode cX0_makeLeastWrite 31 = .ok (.aload_n 0, 1) := by decide +kernel
theorem dX0_makeLeastWrite_32 : decode cX0_makeLeastWrite 32 = .ok (.dup, 1) := by decide +kernel
theorem dX0_makeLeastWrite_33 : decode cX0_makeLeastWrite 33 = .ok (.getfield 108, 3) := by decide +kernel
theorem dX0_makeLeastWrite_36 : decode cX0_makeLeastWrite 36 = .ok (.iconst 1, 1) := by decide +kernel
theorem dX0_makeLeastWrite_37 : decode cX0_makeLeastWrite 37 = .ok (.iadd, 1) := by decide +kernel
theorem dX0_makeLeastWrite_38 : decode cX0_makeLeastWrite 38 = .ok (.putfield 108, 3) := by decide +kernel
theorem dX0_makeLeastWrite_41 : decode cX0_makeLeastWrite 41 = .ok (.iconst 1, 1) := by decide +kernel
theorem dX0_makeLeastWrite_42 : decode cX0_makeLeastWrite 42 = .ok (.ireturn, 1) := by decide +kernel
set_option maxRecDepth 20000 in
theorem ggX0_failPower_J7_fill_53178 : GoodIn wsX0_failPower wsJ7_fill_53178 := goodIn_r _ [8] (by decide +kernel) (by decide +kernel)
set_option maxRecDepth 20000 in
theorem gX0_failPower_J7_fill_53178 : GoodIn wsX0_failPower (va_wsS RX0 61 yJ7_fill_53178 wsJ7_fill_53178) := goodIn_app (goodIn_of _ (by decide +kernel)) ggX0_failPower_J7_fill_53178
theorem dX0_failPower_0 : decode cX0_failPower 0 = .ok (.aload_n 0, 1) := by decide +kernel
theorem dX0_failPower_1 : decode cX0_failPower 1 = .ok (.iconst 0, 1) := by decide +kernel
theorem dX0_failPower_2 : decode cX0_failPower 2 = .ok (.putfield 31, 3) := by decide +kernel
theorem dX0_failPower_5 : decode cX0_failPower 5 = .ok (.aload_n 0, 1) := by decide +kernel
theorem dX0_failPower_6 : decode cX0_failPower 6 = .ok (.aload_n 0, 1) := by decide +kernel
theorem dX0_failPower_7 : decode cX0_failPower 7 = .ok (.getfield 96, 3) := by decide +kernel
theorem dX0_failPower_10 : decode cX0_failPower 10 = .ok (.putfield 84, 3) := by decide +kernel
theorem dX0_failPower_13 : decode cX0_failPower 13 = .ok (.aload_n 0, 1) := by decide +kernel
theorem dX0_failPower_14 : decode cX0_failPower 14 = .ok (.getfield 9, 3) := by decide +kernel
theorem dX0_failPower_17 : decode cX0_failPower 17 = .ok (.iconst 0, 1) := by decide +kernel
theorem dX0_failPower_18 : decode cX0_failPower 18 = .ok (.invokestatic 61, 3) := by decide +kernel
theorem dX0_failPower_21 : decode cX0_failPower 21 = .ok (.return_, 1) := by decide +kernel
