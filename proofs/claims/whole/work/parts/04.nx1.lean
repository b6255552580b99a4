theorem dX1_init_0 : decode cX1_init 0 = .ok (.aload_n 0, 1) := by decide +kernel
theorem dX1_init_1 : decode cX1_init 1 = .ok (.invokespecial 1, 3) := by decide +kernel
theorem dX1_init_4 : decode cX1_init 4 = .ok (.aload_n 0, 1) := by decide +kernel
theorem dX1_init_5 : decode cX1_init 5 = .ok (.ldc 7, 2) := by decide +kernel
theorem dX1_init_7 : decode cX1_init 7 = .ok (.newarray .int, 2) := by decide +kernel
theorem dX1_init_9 : decode cX1_init 9 = .ok (.putfield 8, 3) := by decide +kernel
theorem dX1_init_12 : decode cX1_init 12 = .ok (.aload_n 0, 1) := by decide +kernel
theorem dX1_init_13 : decode cX1_init 13 = .ok (.sipush 1024, 3) := by decide +kernel
theorem dX1_init_16 : decode cX1_init 16 = .ok (.newarray .int, 2) := by decide +kernel
theorem dX1_init_18 : decode cX1_init 18 = .ok (.putfield 14, 3) := by decide +kernel
theorem dX1_init_21 : decode cX1_init 21 = .ok (.aload_n 0, 1) := by decide +kernel
theorem dX1_init_22 : decode cX1_init 22 = .ok (.sipush 512, 3) := by decide +kernel
theorem dX1_init_25 : decode cX1_init 25 = .ok (.newarray .boolean, 2) := by decide +kernel
theorem dX1_init_27 : decode cX1_init 27 = .ok (.putfield 17, 3) := by decide +kernel
theorem dX1_init_30 : decode cX1_init 30 = .ok (.aload_n 0, 1) := by decide +kernel
theorem dX1_init_31 : decode cX1_init 31 = .ok (.ldc 21, 2) := by decide +kernel
theorem dX1_init_33 : decode cX1_init 33 = .ok (.newarray .int, 2) := by decide +kernel
theorem dX1_init_35 : decode cX1_init 35 = .ok (.putfield 22, 3) := by decide +kernel
theorem dX1_init_38 : decode cX1_init 38 = .ok (.aload_n 0, 1) := by decide +kernel
theorem dX1_init_39 : decode cX1_init 39 = .ok (.iconst 4, 1) := by decide +kernel
theorem dX1_init_40 : decode cX1_init 40 = .ok (.newarray .int, 2) := by decide +kernel
theorem dX1_init_42 : decode cX1_init 42 = .ok (.putfield 25, 3) := by decide +kernel
theorem dX1_init_45 : decode cX1_init 45 = .ok (.aload_n 0, 1) := by decide +kernel
theorem dX1_init_46 : decode cX1_init 46 = .ok (.bipush 64, 2) := by decide +kernel
theorem dX1_init_48 : decode cX1_init 48 = .ok (.newarray .int, 2) := by decide +kernel
theorem dX1_init_50 : decode cX1_init 50 = .ok (.putfield 28, 3) := by decide +kernel
theorem dX1_init_53 : decode cX1_init 53 = .ok (.aload_n 0, 1) := by decide +kernel
theorem dX1_init_54 : decode cX1_init 54 = .ok (.iconst (-1), 1) := by decide +kernel
theorem dX1_init_55 : decode cX1_init 55 = .ok (.putfield 31, 3) := by decide +kernel
theorem dX1_init_58 : decode cX1_init 58 = .ok (.aload_n 0, 1) := by decide +kernel
theorem dX1_init_59 : decode cX1_init 59 = .ok (.iconst 0, 1) := by decide +kernel
theorem dX1_init_60 : decode cX1_init 60 = .ok (.putfield 35, 3) := by decide +kernel
theorem dX1_init_63 : decode cX1_init 63 = .ok (.return_, 1) := by decide +kernel
theorem dX1_thrown_0 : decode cX1_thrown 0 = .ok (.aload_n 0, 1) := by decide +kernel
theorem dX1_thrown_1 : decode cX1_thrown 1 = .ok (.getfield 38, 3) := by decide +kernel
theorem dX1_thrown_4 : decode cX1_thrown 4 = .ok (.ireturn, 1) := by decide +kernel
theorem dX1_refused_0 : decode cX1_refused 0 = .ok (.aload_n 0, 1) := by decide +kernel
theorem dX1_refused_1 : decode cX1_refused 1 = .ok (.iload_n 1, 1) := by decide +kernel
theorem dX1_refused_2 : decode cX1_refused 2 = .ok (.ifCond .eq 7, 3) := by decide +kernel
theorem dX1_refused_5 : decode cX1_refused 5 = .ok (.iconst 1, 1) := by decide +kernel
theorem dX1_refused_6 : decode cX1_refused 6 = .ok (.goto 12, 3) := by decide +kernel
theorem dX1_refused_9 : decode cX1_refused 9 = .ok (.iload_n 2, 1) := by decide +kernel
theorem dX1_refused_10 : decode cX1_refused 10 = .ok (.ifCond .eq 7, 3) := by decide +kernel
theorem dX1_refused_13 : decode cX1_refused 13 = .ok (.iconst 2, 1) := by decide +kernel
theorem dX1_refused_14 : decode cX1_refused 14 = .ok (.goto 4, 3) := by decide +kernel
theorem dX1_refused_17 : decode cX1_refused 17 = .ok (.iconst 0, 1) := by decide +kernel
theorem dX1_refused_18 : decode cX1_refused 18 = .ok (.putfield 38, 3) := by decide +kernel
theorem dX1_refused_21 : decode cX1_refused 21 = .ok (.aload_n 0, 1) := by decide +kernel
theorem dX1_refused_22 : decode cX1_refused 22 = .ok (.getfield 38, 3) := by decide +kernel
theorem dX1_refused_25 : decode cX1_refused 25 = .ok (.ifCond .le 7, 3) := by decide +kernel
theorem dX1_refused_28 : decode cX1_refused 28 = .ok (.iconst 1, 1) := by decide +kernel
theorem dX1_refused_29 : decode cX1_refused 29 = .ok (.goto 4, 3) := by decide +kernel
theorem dX1_refused_32 : decode cX1_refused 32 = .ok (.iconst 0, 1) := by decide +kernel
theorem dX1_refused_33 : decode cX1_refused 33 = .ok (.ireturn, 1) := by decide +kernel
theorem dX1_in_0 : decode cX1_in 0 = .ok (.iload_n 0, 1) := by decide +kernel
theorem dX1_in_1 : decode cX1_in 1 = .ok (.iload_n 1, 1) := by decide +kernel
theorem dX1_in_2 : decode cX1_in 2 = .ok (.if_icmp .lt 12, 3) := by decide +kernel
theorem dX1_in_5 : decode cX1_in 5 = .ok (.iload_n 0, 1) := by decide +kernel
theorem dX1_in_6 : decode cX1_in 6 = .ok (.iload_n 2, 1) := by decide +kernel
theorem dX1_in_7 : decode cX1_in 7 = .ok (.if_icmp .gt 7, 3) := by decide +kernel
theorem dX1_in_10 : decode cX1_in 10 = .ok (.iconst 1, 1) := by decide +kernel
theorem dX1_in_11 : decode cX1_in 11 = .ok (.goto 4, 3) := by decide +kernel
theorem dX1_in_14 : decode cX1_in 14 = .ok (.iconst 0, 1) := by decide +kernel
theorem dX1_in_15 : decode cX1_in 15 = .ok (.ireturn, 1) := by decide +kernel
set_option maxRecDepth 20000 in
theorem ggX1_isPage_X1_in : GoodIn wsX1_isPage wsX1_in := goodIn_r _ [4] (by decide +kernel) (by decide +kernel)
set_option maxRecDepth 20000 in
theorem gX1_isPage_X1_in : GoodIn wsX1_isPage (va_wsS RX1 41 yX1_in wsX1_in) := goodIn_app (goodIn_of _ (by decide +kernel)) ggX1_isPage_X1_in
theorem dX1_isPage_0 : decode cX1_isPage 0 = .ok (.iload_n 0, 1) := by decide +kernel
theorem dX1_isPage_1 : decode cX1_isPage 1 = .ok (.iconst 0, 1) := by decide +kernel
theorem dX1_isPage_2 : decode cX1_isPage 2 = .ok (.iconst 1, 1) := by decide +kernel
theorem dX1_isPage_3 : decode cX1_isPage 3 = .ok (.invokestatic 41, 3) := by decide +kernel
theorem dX1_isPage_6 : decode cX1_isPage 6 = .ok (.ifCond .eq 18, 3) := by decide +kernel
theorem dX1_isPage_9 : decode cX1_isPage 9 = .ok (.iload_n 1, 1) := by decide +kernel
theorem dX1_isPage_10 : decode cX1_isPage 10 = .ok (.iconst 0, 1) := by decide +kernel
theorem dX1_isPage_11 : decode cX1_isPage 11 = .ok (.sipush 255, 3) := by decide +kernel
theorem dX1_isPage_14 : decode cX1_isPage 14 = .ok (.invokestatic 41, 3) := by decide +kernel
theorem dX1_isPage_17 : decode cX1_isPage 17 = .ok (.ifCond .eq 7, 3) := by decide +kernel
theorem dX1_isPage_20 : decode cX1_isPage 20 = .ok (.iconst 1, 1) := by decide +kernel
theorem dX1_isPage_21 : decode cX1_isPage 21 = .ok (.goto 4, 3) := by decide +kernel
theorem dX1_isPage_24 : decode cX1_isPage 24 = .ok (.iconst 0, 1) := by decide +kernel
theorem dX1_isPage_25 : decode cX1_isPage 25 = .ok (.ireturn, 1) := by decide +kernel
theorem dX1_fail_0 : decode cX1_fail 0 = .ok (.aload_n 0, 1) := by decide +kernel
theorem dX1_fail_1 : decode cX1_fail 1 = .ok (.iconst 1, 1) := by decide +kernel
theorem dX1_fail_2 : decode cX1_fail 2 = .ok (.putfield 45, 3) := by decide +kernel
theorem dX1_fail_5 : decode cX1_fail 5 = .ok (.aload_n 0, 1) := by decide +kernel
theorem dX1_fail_6 : decode cX1_fail 6 = .ok (.aload_n 0, 1) := by decide +kernel
theorem dX1_fail_7 : decode cX1_fail 7 = .ok (.getfield 49, 3) := by decide +kernel
theorem dX1_fail_10 : decode cX1_fail 10 = .ok (.putfield 52, 3) := by decide +kernel
theorem dX1_fail_13 : decode cX1_fail 13 = .ok (.iconst 0, 1) := by decide +kernel
theorem dX1_fail_14 : decode cX1_fail 14 = .ok (.istore_n 1, 1) := by decide +kernel
theorem dX1_fail_15 : decode cX1_fail 15 = .ok (.iload_n 1, 1) := by decide +kernel
theorem dX1_fail_16 : decode cX1_fail 16 = .ok (.bipush 64, 2) := by decide +kernel
theorem dX1_fail_18 : decode cX1_fail 18 = .ok (.if_icmp .ge 16, 3) := by decide +kernel
theorem dX1_fail_21 : decode cX1_fail 21 = .ok (.aload_n 0, 1) := by decide +kernel
theorem dX1_fail_22 : decode cX1_fail 22 = .ok (.getfield 28, 3) := by decide +kernel
theorem dX1_fail_25 : decode cX1_fail 25 = .ok (.iload_n 1, 1) := by decide +kernel
theorem dX1_fail_26 : decode cX1_fail 26 = .ok (.iconst 0, 1) := by decide +kernel
theorem dX1_fail_27 : decode cX1_fail 27 = .ok (.iastore, 1) := by decide +kernel
theorem dX1_fail_28 : decode cX1_fail 28 = .ok (.iinc 1 1, 3) := by decide +kernel
theorem dX1_fail_31 : decode cX1_fail 31 = .ok (.goto (-16), 3) := by decide +kernel
theorem dX1_fail_34 : decode cX1_fail 34 = .ok (.return_, 1) := by decide +kernel
set_option maxRecDepth 20000 in
theorem ggX1_canWrite_X1_fail : GoodIn wsX1_canWrite wsX1_fail := goodIn_r _ [7, 8, 9, 10, 11, 12, 13, 14, 15, 16, 17, 18, 19, 20, 21, 22, 23, 24, 25] (by decide +kernel) (by decide +kernel)
set_option maxRecDepth 20000 in
theorem gX1_canWrite_X1_fail : GoodIn wsX1_canWrite (wsV RX1 55 RX1 yX1_fail wsX1_fail) := goodIn_app (goodIn_of _ (by decide +kernel)) ggX1_canWrite_X1_fail
theorem dX1_canWrite_0 : decode cX1_canWrite 0 = .ok (.aload_n 0, 1) := by decide +kernel
theorem dX1_canWrite_1 : decode cX1_canWrite 1 = .ok (.getfield 31, 3) := by decide +kernel
theorem dX1_canWrite_4 : decode cX1_canWrite 4 = .ok (.ifCond .ne 9, 3) := by decide +kernel
theorem dX1_canWrite_7 : decode cX1_canWrite 7 = .ok (.aload_n 0, 1) := by decide +kernel
theorem dX1_canWrite_8 : decode cX1_canWrite 8 = .ok (.invokevirtual 55, 3) := by decide +kernel
theorem dX1_canWrite_11 : decode cX1_canWrite 11 = .ok (.iconst 0, 1) := by decide +kernel
theorem dX1_canWrite_12 : decode cX1_canWrite 12 = .ok (.ireturn, 1) := by decide +kernel
theorem dX1_canWrite_13 : decode cX1_canWrite 13 = .ok (.aload_n 0, 1) := by decide +kernel
theorem dX1_canWrite_14 : decode cX1_canWrite 14 = .ok (.aload_n 0, 1) := by decide +kernel
theorem dX1_canWrite_15 : decode cX1_canWrite 15 = .ok (.getfield 31, 3) := by decide +kernel
theorem dX1_canWrite_18 : decode cX1_canWrite 18 = .ok (.ifCond .le 12, 3) := by decide +kernel
theorem dX1_canWrite_21 : decode cX1_canWrite 21 = .ok (.aload_n 0, 1) := by decide +kernel
theorem dX1_canWrite_22 : decode cX1_canWrite 22 = .ok (.getfield 31, 3) := by decide +kernel
theorem dX1_canWrite_25 : decode cX1_canWrite 25 = .ok (.iconst 1, 1) := by decide +kernel
theorem dX1_canWrite_26 : decode cX1_canWrite 26 = .ok (.isub, 1) := by decide +kernel
theorem dX1_canWrite_27 : decode cX1_canWrite 27 = .ok (.goto 7, 3) := by decide +kernel
theorem dX1_canWrite_30 : decode cX1_canWrite 30 = .ok (.aload_n 0, 1) := by decide +kernel
theorem dX1_canWrite_31 : decode cX1_canWrite 31 = .ok (.getfield 31, 3) := by decide +kernel
theorem dX1_canWrite_34 : decode cX1_canWrite 34 = .ok (.putfield 31, 3) := by decide +kernel
theorem dX1_canWrite_37 : decode cX1_canWrite 37 = .ok (.aload_n 0, 1) := by decide +kernel
theorem dX1_canWrite_38 : decode cX1_canWrite 38 = .ok (.dup, 1) := by decide +kernel
theorem dX1_canWrite_39 : decode cX1_canWrite 39 = .ok (.getfield 58, 3) := by decide +kernel
theorem dX1_canWrite_42 : decode cX1_canWrite 42 = .ok (.iconst 1, 1) := by decide +kernel
theorem dX1_canWrite_43 : decode cX1_canWrite 43 = .ok (.iadd, 1) := by decide +kernel
theorem dX1_canWrite_44 : decode cX1_canWrite 44 = .ok (.putfield 58, 3) := by decide +kernel
theorem dX1_canWrite_47 : decode cX1_canWrite 47 = .ok (.iconst 1, 1) := by decide +kernel
theorem dX1_canWrite_48 : decode cX1_canWrite 48 = .ok (.ireturn, 1) := by decide +kernel
set_option maxRecDepth 20000 in
theorem ggX1_set_X1_in : GoodIn wsX1_set wsX1_in := goodIn_r _ [6] (by decide +kernel) (by decide +kernel)
set_option maxRecDepth 20000 in
theorem gX1_set_X1_in : GoodIn wsX1_set (va_wsS RX1 41 yX1_in wsX1_in) := goodIn_app (goodIn_of _ (by decide +kernel)) ggX1_set_X1_in
set_option maxRecDepth 20000 in
theorem ggX1_set_X1_refused : GoodIn wsX1_set wsX1_refused := goodIn_r _ [10, 11, 12, 13, 14, 15, 16, 17, 18, 19, 20, 21, 22, 23, 24, 25] (by decide +kernel) (by decide +kernel)
set_option maxRecDepth 20000 in
theorem gX1_set_X1_refused : GoodIn wsX1_set (wsV RX1 61 RX1 yX1_refused wsX1_refused) := goodIn_app (goodIn_of _ (by decide +kernel)) ggX1_set_X1_refused
theorem dX1_set_0 : decode cX1_set 0 = .ok (.aload_n 0, 1) := by decide +kernel
theorem dX1_set_1 : decode cX1_set 1 = .ok (.aload_n 0, 1) := by decide +kernel
theorem dX1_set_2 : decode cX1_set 2 = .ok (.getfield 45, 3) := by decide +kernel
theorem dX1_set_5 : decode cX1_set 5 = .ok (.iload_n 1, 1) := by decide +kernel
theorem dX1_set_6 : decode cX1_set 6 = .ok (.iconst 0, 1) := by decide +kernel
theorem dX1_set_7 : decode cX1_set 7 = .ok (.bipush 63, 2) := by decide +kernel
theorem dX1_set_9 : decode cX1_set 9 = .ok (.invokestatic 41, 3) := by decide +kernel
theorem dX1_set_12 : decode cX1_set 12 = .ok (.ifCond .ne 7, 3) := by decide +kernel
theorem dX1_set_15 : decode cX1_set 15 = .ok (.iconst 1, 1) := by decide +kernel
theorem dX1_set_16 : decode cX1_set 16 = .ok (.goto 4, 3) := by decide +kernel
theorem dX1_set_19 : decode cX1_set 19 = .ok (.iconst 0, 1) := by decide +kernel
theorem dX1_set_20 : decode cX1_set 20 = .ok (.invokevirtual 61, 3) := by decide +kernel
theorem dX1_set_23 : decode cX1_set 23 = .ok (.ifCond .ne 10, 3) := by decide +kernel
theorem dX1_set_26 : decode cX1_set 26 = .ok (.aload_n 0, 1) := by decide +kernel
theorem dX1_set_27 : decode cX1_set 27 = .ok (.getfield 28, 3) := by decide +kernel
theorem dX1_set_30 : decode cX1_set 30 = .ok (.iload_n 1, 1) := by decide +kernel
theorem dX1_set_31 : decode cX1_set 31 = .ok (.iload_n 2, 1) := by decide +kernel
theorem dX1_set_32 : decode cX1_set 32 = .ok (.iastore, 1) := by decide +kernel
theorem dX1_set_33 : decode cX1_set 33 = .ok (.return_, 1) := by decide +kernel
set_option maxRecDepth 20000 in
theorem ggX1_fill_X1_refused : GoodIn wsX1_fill wsX1_refused := goodIn_r _ [7, 8, 9, 10, 11, 12, 13, 14, 15, 16, 17, 18, 19, 20, 21, 22] (by decide +kernel) (by decide +kernel)
set_option maxRecDepth 20000 in
theorem gX1_fill_X1_refused : GoodIn wsX1_fill (wsV RX1 61 RX1 yX1_refused wsX1_refused) := goodIn_app (goodIn_of _ (by decide +kernel)) ggX1_fill_X1_refused
theorem dX1_fill_0 : decode cX1_fill 0 = .ok (.aload_n 0, 1) := by decide +kernel
theorem dX1_fill_1 : decode cX1_fill 1 = .ok (.aload_n 0, 1) := by decide +kernel
theorem dX1_fill_2 : decode cX1_fill 2 = .ok (.getfield 45, 3) := by decide +kernel
theorem dX1_fill_5 : decode cX1_fill 5 = .ok (.iconst 0, 1) := by decide +kernel
theorem dX1_fill_6 : decode cX1_fill 6 = .ok (.invokevirtual 61, 3) := by decide +kernel
theorem dX1_fill_9 : decode cX1_fill 9 = .ok (.ifCond .ne 28, 3) := by decide +kernel
theorem dX1_fill_12 : decode cX1_fill 12 = .ok (.iconst 0, 1) := by decide +kernel
theorem dX1_fill_13 : decode cX1_fill 13 = .ok (.istore_n 3, 1) := by decide +kernel
theorem dX1_fill_14 : decode cX1_fill 14 = .ok (.iload_n 3, 1) := by decide +kernel
theorem dX1_fill_15 : decode cX1_fill 15 = .ok (.bipush 64, 2) := by decide +kernel
theorem dX1_fill_17 : decode cX1_fill 17 = .ok (.if_icmp .ge 20, 3) := by decide +kernel
theorem dX1_fill_20 : decode cX1_fill 20 = .ok (.aload_n 0, 1) := by decide +kernel
theorem dX1_fill_21 : decode cX1_fill 21 = .ok (.getfield 28, 3) := by decide +kernel
theorem dX1_fill_24 : decode cX1_fill 24 = .ok (.iload_n 3, 1) := by decide +kernel
theorem dX1_fill_25 : decode cX1_fill 25 = .ok (.iload_n 1, 1) := by decide +kernel
theorem dX1_fill_26 : decode cX1_fill 26 = .ok (.iload_n 3, 1) := by decide +kernel
theorem dX1_fill_27 : decode cX1_fill 27 = .ok (.iload_n 2, 1) := by decide +kernel
theorem dX1_fill_28 : decode cX1_fill 28 = .ok (.imul, 1) := by decide +kernel
theorem dX1_fill_29 : decode cX1_fill 29 = .ok (.iadd, 1) := by decide +kernel
theorem dX1_fill_30 : decode cX1_fill 30 = .ok (.iastore, 1) := by decide +kernel
theorem dX1_fill_31 : decode cX1_fill 31 = .ok (.iinc 3 1, 3) := by decide +kernel
theorem dX1_fill_34 : decode cX1_fill 34 = .ok (.goto (-20), 3) := by decide +kernel
theorem dX1_fill_37 : decode cX1_fill 37 = .ok (.return_, 1) := by decide +kernel
set_option maxRecDepth 20000 in
theorem ggX1_get_X1_in : GoodIn wsX1_get wsX1_in := goodIn_r _ [5] (by decide +kernel) (by decide +kernel)
set_option maxRecDepth 20000 in
theorem gX1_get_X1_in : GoodIn wsX1_get (va_wsS RX1 41 yX1_in wsX1_in) := goodIn_app (goodIn_of _ (by decide +kernel)) ggX1_get_X1_in
set_option maxRecDepth 20000 in
theorem ggX1_get_X1_refused : GoodIn wsX1_get wsX1_refused := goodIn_r _ [9, 10, 11, 12, 13, 14, 15, 16, 17, 18, 19, 20, 21, 22, 23, 24] (by decide +kernel) (by decide +kernel)
set_option maxRecDepth 20000 in
theorem gX1_get_X1_refused : GoodIn wsX1_get (wsV RX1 61 RX1 yX1_refused wsX1_refused) := goodIn_app (goodIn_of _ (by decide +kernel)) ggX1_get_X1_refused
theorem dX1_get_0 : decode cX1_get 0 = .ok (.aload_n 0, 1) := by decide +kernel
theorem dX1_get_1 : decode cX1_get 1 = .ok (.iload_n 1, 1) := by decide +kernel
theorem dX1_get_2 : decode cX1_get 2 = .ok (.iconst 0, 1) := by decide +kernel
theorem dX1_get_3 : decode cX1_get 3 = .ok (.bipush 63, 2) := by decide +kernel
theorem dX1_get_5 : decode cX1_get 5 = .ok (.invokestatic 41, 3) := by decide +kernel
theorem dX1_get_8 : decode cX1_get 8 = .ok (.ifCond .ne 7, 3) := by decide +kernel
theorem dX1_get_11 : decode cX1_get 11 = .ok (.iconst 1, 1) := by decide +kernel
theorem dX1_get_12 : decode cX1_get 12 = .ok (.goto 4, 3) := by decide +kernel
theorem dX1_get_15 : decode cX1_get 15 = .ok (.iconst 0, 1) := by decide +kernel
theorem dX1_get_16 : decode cX1_get 16 = .ok (.iconst 0, 1) := by decide +kernel
theorem dX1_get_17 : decode cX1_get 17 = .ok (.invokevirtual 61, 3) := by decide +kernel
theorem dX1_get_20 : decode cX1_get 20 = .ok (.ifCond .eq 7, 3) := by decide +kernel
theorem dX1_get_23 : decode cX1_get 23 = .ok (.iconst 0, 1) := by decide +kernel
theorem dX1_get_24 : decode cX1_get 24 = .ok (.goto 9, 3) := by decide +kernel
theorem dX1_get_27 : decode cX1_get 27 = .ok (.aload_n 0, 1) := by decide +kernel
theorem dX1_get_28 : decode cX1_get 28 = .ok (.getfield 28, 3) := by decide +kernel
theorem dX1_get_31 : decode cX1_get 31 = .ok (.iload_n 1, 1) := by decide +kernel
theorem dX1_get_32 : decode cX1_get 32 = .ok (.iaload, 1) := by decide +kernel
theorem dX1_get_33 : decode cX1_get 33 = .ok (.ireturn, 1) := by decide +kernel
theorem dX1_sum_0 : decode cX1_sum 0 = .ok (.aload_n 0, 1) := by decide +kernel
theorem dX1_sum_1 : decode cX1_sum 1 = .ok (.iconst 0, 1) := by decide +kernel
theorem dX1_sum_2 : decode cX1_sum 2 = .ok (.putfield 38, 3) := by decide +kernel
theorem dX1_sum_5 : decode cX1_sum 5 = .ok (.iconst 0, 1) := by decide +kernel
theorem dX1_sum_6 : decode cX1_sum 6 = .ok (.istore_n 1, 1) := by decide +kernel
theorem dX1_sum_7 : decode cX1_sum 7 = .ok (.iconst 0, 1) := by decide +kernel
theorem dX1_sum_8 : decode cX1_sum 8 = .ok (.istore_n 2, 1) := by decide +kernel
theorem dX1_sum_9 : decode cX1_sum 9 = .ok (.iload_n 2, 1) := by decide +kernel
theorem dX1_sum_10 : decode cX1_sum 10 = .ok (.bipush 64, 2) := by decide +kernel
theorem dX1_sum_12 : decode cX1_sum 12 = .ok (.if_icmp .ge 22, 3) := by decide +kernel
theorem dX1_sum_15 : decode cX1_sum 15 = .ok (.iload_n 1, 1) := by decide +kernel
theorem dX1_sum_16 : decode cX1_sum 16 = .ok (.aload_n 0, 1) := by decide +kernel
theorem dX1_sum_17 : decode cX1_sum 17 = .ok (.getfield 28, 3) := by decide +kernel
theorem dX1_sum_20 : decode cX1_sum 20 = .ok (.iload_n 2, 1) := by decide +kernel
theorem dX1_sum_21 : decode cX1_sum 21 = .ok (.iaload, 1) := by decide +kernel
theorem dX1_sum_22 : decode cX1_sum 22 = .ok (.iload_n 2, 1) := by decide +kernel
theorem dX1_sum_23 : decode cX1_sum 23 = .ok (.iconst 1, 1) := by decide +kernel
theorem dX1_sum_24 : decode cX1_sum 24 = .ok (.iadd, 1) := by decide +kernel
theorem dX1_sum_25 : decode cX1_sum 25 = .ok (.imul, 1) := by decide +kernel
theorem dX1_sum_26 : decode cX1_sum 26 = .ok (.iadd, 1) := by decide +kernel
theorem dX1_sum_27 : decode cX1_sum 27 = .ok (.istore_n 1, 1) := by decide +kernel
theorem dX1_sum_28 : decode cX1_sum 28 = .ok (.iinc 2 1, 3) := by decide +kernel
theorem dX1_sum_31 : decode cX1_sum 31 = .ok (.goto (-22), 3) := by decide +kernel
theorem dX1_sum_34 : decode cX1_sum 34 = .ok (.iload_n 1, 1) := by decide +kernel
theorem dX1_sum_35 : decode cX1_sum 35 = .ok (.ireturn, 1) := by decide +kernel
theorem dX1_place_0 : decode cX1_place 0 = .ok (.sipush 256, 3) := by decide +kernel
theorem dX1_place_3 : decode cX1_place 3 = .ok (.iload_n 0, 1) := by decide +kernel
theorem dX1_place_4 : decode cX1_place 4 = .ok (.imul, 1) := by decide +kernel
theorem dX1_place_5 : decode cX1_place 5 = .ok (.iload_n 1, 1) := by decide +kernel
theorem dX1_place_6 : decode cX1_place 6 = .ok (.iadd, 1) := by decide +kernel
theorem dX1_place_7 : decode cX1_place 7 = .ok (.ireturn, 1) := by decide +kernel
theorem dX1_isTorn_0 : decode cX1_isTorn 0 = .ok (.aload_n 0, 1) := by decide +kernel
theorem dX1_isTorn_1 : decode cX1_isTorn 1 = .ok (.getfield 14, 3) := by decide +kernel
theorem dX1_isTorn_4 : decode cX1_isTorn 4 = .ok (.iconst 2, 1) := by decide +kernel
theorem dX1_isTorn_5 : decode cX1_isTorn 5 = .ok (.iload_n 1, 1) := by decide +kernel
theorem dX1_isTorn_6 : decode cX1_isTorn 6 = .ok (.imul, 1) := by decide +kernel
theorem dX1_isTorn_7 : decode cX1_isTorn 7 = .ok (.iaload, 1) := by decide +kernel
theorem dX1_isTorn_8 : decode cX1_isTorn 8 = .ok (.aload_n 0, 1) := by decide +kernel
theorem dX1_isTorn_9 : decode cX1_isTorn 9 = .ok (.getfield 14, 3) := by decide +kernel
theorem dX1_isTorn_12 : decode cX1_isTorn 12 = .ok (.iconst 2, 1) := by decide +kernel
theorem dX1_isTorn_13 : decode cX1_isTorn 13 = .ok (.iload_n 1, 1) := by decide +kernel
theorem dX1_isTorn_14 : decode cX1_isTorn 14 = .ok (.imul, 1) := by decide +kernel
theorem dX1_isTorn_15 : decode cX1_isTorn 15 = .ok (.iconst 1, 1) := by decide +kernel
theorem dX1_isTorn_16 : decode cX1_isTorn 16 = .ok (.iadd, 1) := by decide +kernel
theorem dX1_isTorn_17 : decode cX1_isTorn 17 = .ok (.iaload, 1) := by decide +kernel
theorem dX1_isTorn_18 : decode cX1_isTorn 18 = .ok (.if_icmp .eq 7, 3) := by decide +kernel
theorem dX1_isTorn_21 : decode cX1_isTorn 21 = .ok (.iconst 1, 1) := by decide +kernel
theorem dX1_isTorn_22 : decode cX1_isTorn 22 = .ok (.goto 4, 3) := by decide +kernel
theorem dX1_isTorn_25 : decode cX1_isTorn 25 = .ok (.iconst 0, 1) := by decide +kernel
theorem dX1_isTorn_26 : decode cX1_isTorn 26 = .ok (.ireturn, 1) := by decide +kernel
set_option maxRecDepth 20000 in
theorem ggX1_stateOf_X1_isTorn : GoodIn wsX1_stateOf wsX1_isTorn := goodIn_r _ [6, 7, 8, 9, 10, 11, 12, 13, 14, 15, 16, 17, 18, 19, 20, 21] (by decide +kernel) (by decide +kernel)
set_option maxRecDepth 20000 in
theorem gX1_stateOf_X1_isTorn : GoodIn wsX1_stateOf (wsV RX1 65 RX1 yX1_isTorn wsX1_isTorn) := goodIn_app (goodIn_of _ (by decide +kernel)) ggX1_stateOf_X1_isTorn
theorem dX1_stateOf_0 : decode cX1_stateOf 0 = .ok (.aload_n 0, 1) := by decide +kernel
theorem dX1_stateOf_1 : decode cX1_stateOf 1 = .ok (.getfield 17, 3) := by decide +kernel
theorem dX1_stateOf_4 : decode cX1_stateOf 4 = .ok (.iload_n 1, 1) := by decide +kernel
theorem dX1_stateOf_5 : decode cX1_stateOf 5 = .ok (.baload, 1) := by decide +kernel
theorem dX1_stateOf_6 : decode cX1_stateOf 6 = .ok (.ifCond .eq 7, 3) := by decide +kernel
theorem dX1_stateOf_9 : decode cX1_stateOf 9 = .ok (.iconst 2, 1) := by decide +kernel
theorem dX1_stateOf_10 : decode cX1_stateOf 10 = .ok (.goto 16, 3) := by decide +kernel
theorem dX1_stateOf_13 : decode cX1_stateOf 13 = .ok (.aload_n 0, 1) := by decide +kernel
theorem dX1_stateOf_14 : decode cX1_stateOf 14 = .ok (.iload_n 1, 1) := by decide +kernel
theorem dX1_stateOf_15 : decode cX1_stateOf 15 = .ok (.invokevirtual 65, 3) := by decide +kernel
theorem dX1_stateOf_18 : decode cX1_stateOf 18 = .ok (.ifCond .eq 7, 3) := by decide +kernel
theorem dX1_stateOf_21 : decode cX1_stateOf 21 = .ok (.iconst 1, 1) := by decide +kernel
theorem dX1_stateOf_22 : decode cX1_stateOf 22 = .ok (.goto 4, 3) := by decide +kernel
theorem dX1_stateOf_25 : decode cX1_stateOf 25 = .ok (.iconst 0, 1) := by decide +kernel
theorem dX1_stateOf_26 : decode cX1_stateOf 26 = .ok (.ireturn, 1) := by decide +kernel
set_option maxRecDepth 20000 in
theorem ggX1_writePage_X1_canWrite : GoodIn wsX1_writePage wsX1_canWrite := goodIn_r _ [10, 11, 12, 13, 14, 15, 9, 16, 17, 18, 19, 3, 20, 21, 22, 23, 24, 25, 26, 27, 28, 29, 30, 31, 32, 33] (by decide +kernel) (by decide +kernel)
set_option maxRecDepth 20000 in
theorem gX1_writePage_X1_canWrite : GoodIn wsX1_writePage (wsV RX1 72 RX1 yX1_canWrite wsX1_canWrite) := goodIn_app (goodIn_of _ (by decide +kernel)) ggX1_writePage_X1_canWrite
theorem dX1_writePage_0 : decode cX1_writePage 0 = .ok (.aload_n 0, 1) := by decide +kernel
theorem dX1_writePage_1 : decode cX1_writePage 1 = .ok (.dup, 1) := by decide +kernel
theorem dX1_writePage_2 : decode cX1_writePage 2 = .ok (.getfield 69, 3) := by decide +kernel
theorem dX1_writePage_5 : decode cX1_writePage 5 = .ok (.iconst 1, 1) := by decide +kernel
theorem dX1_writePage_6 : decode cX1_writePage 6 = .ok (.iadd, 1) := by decide +kernel
theorem dX1_writePage_7 : decode cX1_writePage 7 = .ok (.putfield 69, 3) := by decide +kernel
theorem dX1_writePage_10 : decode cX1_writePage 10 = .ok (.aload_n 0, 1) := by decide +kernel
theorem dX1_writePage_11 : decode cX1_writePage 11 = .ok (.getfield 69, 3) := by decide +kernel
theorem dX1_writePage_14 : decode cX1_writePage 14 = .ok (.istore 4, 2) := by decide +kernel
theorem dX1_writePage_16 : decode cX1_writePage 16 = .ok (.iconst 0, 1) := by decide +kernel
theorem dX1_writePage_17 : decode cX1_writePage 17 = .ok (.istore 5, 2) := by decide +kernel
theorem dX1_writePage_19 : decode cX1_writePage 19 = .ok (.iload 5, 2) := by decide +kernel
theorem dX1_writePage_21 : decode cX1_writePage 21 = .ok (.iconst 2, 1) := by decide +kernel
theorem dX1_writePage_22 : decode cX1_writePage 22 = .ok (.if_icmp .ge 92, 3) := by decide +kernel
theorem dX1_writePage_25 : decode cX1_writePage 25 = .ok (.aload_n 0, 1) := by decide +kernel
theorem dX1_writePage_26 : decode cX1_writePage 26 = .ok (.invokevirtual 72, 3) := by decide +kernel
theorem dX1_writePage_29 : decode cX1_writePage 29 = .ok (.ifCond .ne 5, 3) := by decide +kernel
theorem dX1_writePage_32 : decode cX1_writePage 32 = .ok (.iconst (-1), 1) := by decide +kernel
theorem dX1_writePage_33 : decode cX1_writePage 33 = .ok (.ireturn, 1) := by decide +kernel
theorem dX1_writePage_34 : decode cX1_writePage 34 = .ok (.bipush 32, 2) := by decide +kernel
theorem dX1_writePage_36 : decode cX1_writePage 36 = .ok (.iload 5, 2) := by decide +kernel
theorem dX1_writePage_38 : decode cX1_writePage 38 = .ok (.imul, 1) := by decide +kernel
theorem dX1_writePage_39 : decode cX1_writePage 39 = .ok (.istore 6, 2) := by decide +kernel
theorem dX1_writePage_41 : decode cX1_writePage 41 = .ok (.iload 6, 2) := by decide +kernel
theorem dX1_writePage_43 : decode cX1_writePage 43 = .ok (.bipush 32, 2) := by decide +kernel
theorem dX1_writePage_45 : decode cX1_writePage 45 = .ok (.iload 5, 2) := by decide +kernel
theorem dX1_writePage_47 : decode cX1_writePage 47 = .ok (.imul, 1) := by decide +kernel
theorem dX1_writePage_48 : decode cX1_writePage 48 = .ok (.bipush 32, 2) := by decide +kernel
theorem dX1_writePage_50 : decode cX1_writePage 50 = .ok (.iadd, 1) := by decide +kernel
theorem dX1_writePage_51 : decode cX1_writePage 51 = .ok (.if_icmp .ge 44, 3) := by decide +kernel
theorem dX1_writePage_54 : decode cX1_writePage 54 = .ok (.aload_n 0, 1) := by decide +kernel
theorem dX1_writePage_55 : decode cX1_writePage 55 = .ok (.getfield 8, 3) := by decide +kernel
theorem dX1_writePage_58 : decode cX1_writePage 58 = .ok (.bipush 64, 2) := by decide +kernel
theorem dX1_writePage_60 : decode cX1_writePage 60 = .ok (.iload_n 1, 1) := by decide +kernel
theorem dX1_writePage_61 : decode cX1_writePage 61 = .ok (.imul, 1) := by decide +kernel
theorem dX1_writePage_62 : decode cX1_writePage 62 = .ok (.iload 6, 2) := by decide +kernel
theorem dX1_writePage_64 : decode cX1_writePage 64 = .ok (.iadd, 1) := by decide +kernel
theorem dX1_writePage_65 : decode cX1_writePage 65 = .ok (.iload_n 3, 1) := by decide +kernel
theorem dX1_writePage_66 : decode cX1_writePage 66 = .ok (.ifCond .eq 13, 3) := by decide +kernel
theorem dX1_writePage_69 : decode cX1_writePage 69 = .ok (.aload_n 0, 1) := by decide +kernel
theorem dX1_writePage_70 : decode cX1_writePage 70 = .ok (.getfield 28, 3) := by decide +kernel
theorem dX1_writePage_73 : decode cX1_writePage 73 = .ok (.iload 6, 2) := by decide +kernel
theorem dX1_writePage_75 : decode cX1_writePage 75 = .ok (.iaload, 1) := by decide +kernel
theorem dX1_writePage_76 : decode cX1_writePage 76 = .ok (.goto 12, 3) := by decide +kernel
theorem dX1_writePage_79 : decode cX1_writePage 79 = .ok (.aload_n 0, 1) := by decide +kernel
theorem dX1_writePage_80 : decode cX1_writePage 80 = .ok (.getfield 8, 3) := by decide +kernel
theorem dX1_writePage_83 : decode cX1_writePage 83 = .ok (.iload_n 2, 1) := by decide +kernel
theorem dX1_writePage_84 : decode cX1_writePage 84 = .ok (.iload 6, 2) := by decide +kernel
theorem dX1_writePage_86 : decode cX1_writePage 86 = .ok (.iadd, 1) := by decide +kernel
theorem dX1_writePage_87 : decode cX1_writePage 87 = .ok (.iaload, 1) := by decide +kernel
theorem dX1_writePage_88 : decode cX1_writePage 88 = .ok (.iastore, 1) := by decide +kernel
theorem dX1_writePage_89 : decode cX1_writePage 89 = .ok (.iinc 6 1, 3) := by decide +kernel
theorem dX1_writePage_92 : decode cX1_writePage 92 = .ok (.goto (-51), 3) := by decide +kernel
theorem dX1_writePage_95 : decode cX1_writePage 95 = .ok (.aload_n 0, 1) := by decide +kernel
theorem dX1_writePage_96 : decode cX1_writePage 96 = .ok (.getfield 14, 3) := by decide +kernel
theorem dX1_writePage_99 : decode cX1_writePage 99 = .ok (.iconst 2, 1) := by decide +kernel
theorem dX1_writePage_100 : decode cX1_writePage 100 = .ok (.iload_n 1, 1) := by decide +kernel
theorem dX1_writePage_101 : decode cX1_writePage 101 = .ok (.imul, 1) := by decide +kernel
theorem dX1_writePage_102 : decode cX1_writePage 102 = .ok (.iload 5, 2) := by decide +kernel
theorem dX1_writePage_104 : decode cX1_writePage 104 = .ok (.iadd, 1) := by decide +kernel
theorem dX1_writePage_105 : decode cX1_writePage 105 = .ok (.iload 4, 2) := by decide +kernel
theorem dX1_writePage_107 : decode cX1_writePage 107 = .ok (.iastore, 1) := by decide +kernel
theorem dX1_writePage_108 : decode cX1_writePage 108 = .ok (.iinc 5 1, 3) := by decide +kernel
theorem dX1_writePage_111 : decode cX1_writePage 111 = .ok (.goto (-92), 3) := by decide +kernel
theorem dX1_writePage_114 : decode cX1_writePage 114 = .ok (.aload_n 0, 1) := by decide +kernel
theorem dX1_writePage_115 : decode cX1_writePage 115 = .ok (.getfield 17, 3) := by decide +kernel
theorem dX1_writePage_118 : decode cX1_writePage 118 = .ok (.iload_n 1, 1) := by decide +kernel
theorem dX1_writePage_119 : decode cX1_writePage 119 = .ok (.iconst 0, 1) := by decide +kernel
theorem dX1_writePage_120 : decode cX1_writePage 120 = .ok (.bastore, 1) := by decide +kernel
theorem dX1_writePage_121 : decode cX1_writePage 121 = .ok (.iload 4, 2) := by decide +kernel
theorem dX1_writePage_123 : decode cX1_writePage 123 = .ok (.ireturn, 1) := by decide +kernel
set_option maxRecDepth 20000 in
theorem ggX1_write_X1_isPage : GoodIn wsX1_write wsX1_isPage := goodIn_r _ [5, 6, 7, 4, 8] (by decide +kernel) (by decide +kernel)
set_option maxRecDepth 20000 in
theorem gX1_write_X1_isPage : GoodIn wsX1_write (va_wsS RX1 76 yX1_isPage wsX1_isPage) := goodIn_app (goodIn_of _ (by decide +kernel)) ggX1_write_X1_isPage
set_option maxRecDepth 20000 in
theorem ggX1_write_X1_refused : GoodIn wsX1_write wsX1_refused := goodIn_r _ [12, 13, 38, 39, 40, 41, 42, 43, 44, 45, 46, 47, 48, 49, 50, 51] (by decide +kernel) (by decide +kernel)
set_option maxRecDepth 20000 in
theorem gX1_write_X1_refused : GoodIn wsX1_write (wsV RX1 61 RX1 yX1_refused wsX1_refused) := goodIn_app (goodIn_of _ (by decide +kernel)) ggX1_write_X1_refused
set_option maxRecDepth 20000 in
theorem ggX1_write_X1_place : GoodIn wsX1_write wsX1_place := goodIn_r _ [16] (by decide +kernel) (by decide +kernel)
set_option maxRecDepth 20000 in
theorem gX1_write_X1_place : GoodIn wsX1_write (va_wsS RX1 80 yX1_place wsX1_place) := goodIn_app (goodIn_of _ (by decide +kernel)) ggX1_write_X1_place
set_option maxRecDepth 20000 in
theorem ggX1_write_X1_writePage : GoodIn wsX1_write wsX1_writePage := goodIn_r _ [20, 21, 22, 23, 24, 25, 26, 27, 28, 4, 29, 30, 31, 32, 33, 34, 35, 1, 36, 37, 38, 39, 40, 41, 42, 43, 44, 45, 46, 47, 48, 49, 50, 51] (by decide +kernel) (by decide +kernel)
set_option maxRecDepth 20000 in
theorem gX1_write_X1_writePage : GoodIn wsX1_write (wsV RX1 84 RX1 yX1_writePage wsX1_writePage) := goodIn_app (goodIn_of _ (by decide +kernel)) ggX1_write_X1_writePage
theorem dX1_write_0 : decode cX1_write 0 = .ok (.aload_n 0, 1) := by decide +kernel
theorem dX1_write_1 : decode cX1_write 1 = .ok (.aload_n 0, 1) := by decide +kernel
theorem dX1_write_2 : decode cX1_write 2 = .ok (.getfield 45, 3) := by decide +kernel
theorem dX1_write_5 : decode cX1_write 5 = .ok (.iload_n 1, 1) := by decide +kernel
theorem dX1_write_6 : decode cX1_write 6 = .ok (.iload_n 2, 1) := by decide +kernel
theorem dX1_write_7 : decode cX1_write 7 = .ok (.invokestatic 76, 3) := by decide +kernel
theorem dX1_write_10 : decode cX1_write 10 = .ok (.ifCond .ne 7, 3) := by decide +kernel
theorem dX1_write_13 : decode cX1_write 13 = .ok (.iconst 1, 1) := by decide +kernel
theorem dX1_write_14 : decode cX1_write 14 = .ok (.goto 4, 3) := by decide +kernel
theorem dX1_write_17 : decode cX1_write 17 = .ok (.iconst 0, 1) := by decide +kernel
theorem dX1_write_18 : decode cX1_write 18 = .ok (.invokevirtual 61, 3) := by decide +kernel
theorem dX1_write_21 : decode cX1_write 21 = .ok (.ifCond .eq 5, 3) := by decide +kernel
theorem dX1_write_24 : decode cX1_write 24 = .ok (.iconst 0, 1) := by decide +kernel
theorem dX1_write_25 : decode cX1_write 25 = .ok (.ireturn, 1) := by decide +kernel
theorem dX1_write_26 : decode cX1_write 26 = .ok (.aload_n 0, 1) := by decide +kernel
theorem dX1_write_27 : decode cX1_write 27 = .ok (.iload_n 1, 1) := by decide +kernel
theorem dX1_write_28 : decode cX1_write 28 = .ok (.iload_n 2, 1) := by decide +kernel
theorem dX1_write_29 : decode cX1_write 29 = .ok (.invokestatic 80, 3) := by decide +kernel
theorem dX1_write_32 : decode cX1_write 32 = .ok (.iconst 0, 1) := by decide +kernel
theorem dX1_write_33 : decode cX1_write 33 = .ok (.iconst 1, 1) := by decide +kernel
theorem dX1_write_34 : decode cX1_write 34 = .ok (.invokevirtual 84, 3) := by decide +kernel
theorem dX1_write_37 : decode cX1_write 37 = .ok (.ireturn, 1) := by decide +kernel
set_option maxRecDepth 20000 in
theorem ggX1_read_X1_isPage : GoodIn wsX1_read wsX1_isPage := goodIn_r _ [8, 9, 10, 7, 11] (by decide +kernel) (by decide +kernel)
set_option maxRecDepth 20000 in
theorem gX1_read_X1_isPage : GoodIn wsX1_read (va_wsS RX1 76 yX1_isPage wsX1_isPage) := goodIn_app (goodIn_of _ (by decide +kernel)) ggX1_read_X1_isPage
set_option maxRecDepth 20000 in
theorem ggX1_read_X1_refused : GoodIn wsX1_read wsX1_refused := goodIn_r _ [15, 16, 29, 30, 31, 32, 33, 34, 35, 36, 37, 38, 39, 40, 41, 42] (by decide +kernel) (by decide +kernel)
set_option maxRecDepth 20000 in
theorem gX1_read_X1_refused : GoodIn wsX1_read (wsV RX1 61 RX1 yX1_refused wsX1_refused) := goodIn_app (goodIn_of _ (by decide +kernel)) ggX1_read_X1_refused
set_option maxRecDepth 20000 in
theorem ggX1_read_X1_place : GoodIn wsX1_read wsX1_place := goodIn_r _ [19] (by decide +kernel) (by decide +kernel)
set_option maxRecDepth 20000 in
theorem gX1_read_X1_place : GoodIn wsX1_read (va_wsS RX1 80 yX1_place wsX1_place) := goodIn_app (goodIn_of _ (by decide +kernel)) ggX1_read_X1_place
set_option maxRecDepth 20000 in
theorem ggX1_read_X1_stateOf : GoodIn wsX1_read wsX1_stateOf := goodIn_r _ [23, 3, 24, 25, 26, 7, 27, 28, 29, 30, 31, 32, 33, 34, 35, 36, 37, 38, 39, 40, 41, 42] (by decide +kernel) (by decide +kernel)
set_option maxRecDepth 20000 in
theorem gX1_read_X1_stateOf : GoodIn wsX1_read (wsV RX1 88 RX1 yX1_stateOf wsX1_stateOf) := goodIn_app (goodIn_of _ (by decide +kernel)) ggX1_read_X1_stateOf
theorem dX1_read_0 : decode cX1_read 0 = .ok (.aload_n 0, 1) := by decide +kernel
theorem dX1_read_1 : decode cX1_read 1 = .ok (.aload_n 0, 1) := by decide +kernel
theorem dX1_read_2 : decode cX1_read 2 = .ok (.getfield 45, 3) := by decide +kernel
theorem dX1_read_5 : decode cX1_read 5 = .ok (.iload_n 1, 1) := by decide +kernel
theorem dX1_read_6 : decode cX1_read 6 = .ok (.iload_n 2, 1) := by decide +kernel
theorem dX1_read_7 : decode cX1_read 7 = .ok (.invokestatic 76, 3) := by decide +kernel
theorem dX1_read_10 : decode cX1_read 10 = .ok (.ifCond .ne 7, 3) := by decide +kernel
theorem dX1_read_13 : decode cX1_read 13 = .ok (.iconst 1, 1) := by decide +kernel
theorem dX1_read_14 : decode cX1_read 14 = .ok (.goto 4, 3) := by decide +kernel
theorem dX1_read_17 : decode cX1_read 17 = .ok (.iconst 0, 1) := by decide +kernel
theorem dX1_read_18 : decode cX1_read 18 = .ok (.invokevirtual 61, 3) := by decide +kernel
theorem dX1_read_21 : decode cX1_read 21 = .ok (.ifCond .eq 5, 3) := by decide +kernel
theorem dX1_read_24 : decode cX1_read 24 = .ok (.iconst 0, 1) := by decide +kernel
theorem dX1_read_25 : decode cX1_read 25 = .ok (.ireturn, 1) := by decide +kernel
theorem dX1_read_26 : decode cX1_read 26 = .ok (.iload_n 1, 1) := by decide +kernel
theorem dX1_read_27 : decode cX1_read 27 = .ok (.iload_n 2, 1) := by decide +kernel
theorem dX1_read_28 : decode cX1_read 28 = .ok (.invokestatic 80, 3) := by decide +kernel
theorem dX1_read_31 : decode cX1_read 31 = .ok (.istore_n 3, 1) := by decide +kernel
theorem dX1_read_32 : decode cX1_read 32 = .ok (.iconst 0, 1) := by decide +kernel
theorem dX1_read_33 : decode cX1_read 33 = .ok (.istore 4, 2) := by decide +kernel
theorem dX1_read_35 : decode cX1_read 35 = .ok (.iload 4, 2) := by decide +kernel
theorem dX1_read_37 : decode cX1_read 37 = .ok (.bipush 64, 2) := by decide +kernel
theorem dX1_read_39 : decode cX1_read 39 = .ok (.if_icmp .ge 41, 3) := by decide +kernel
theorem dX1_read_42 : decode cX1_read 42 = .ok (.aload_n 0, 1) := by decide +kernel
theorem dX1_read_43 : decode cX1_read 43 = .ok (.getfield 28, 3) := by decide +kernel
theorem dX1_read_46 : decode cX1_read 46 = .ok (.iload 4, 2) := by decide +kernel
theorem dX1_read_48 : decode cX1_read 48 = .ok (.aload_n 0, 1) := by decide +kernel
theorem dX1_read_49 : decode cX1_read 49 = .ok (.getfield 17, 3) := by decide +kernel
theorem dX1_read_52 : decode cX1_read 52 = .ok (.iload_n 3, 1) := by decide +kernel
theorem dX1_read_53 : decode cX1_read 53 = .ok (.baload, 1) := by decide +kernel
theorem dX1_read_54 : decode cX1_read 54 = .ok (.ifCond .eq 7, 3) := by decide +kernel
theorem dX1_read_57 : decode cX1_read 57 = .ok (.iconst 0, 1) := by decide +kernel
theorem dX1_read_58 : decode cX1_read 58 = .ok (.goto 15, 3) := by decide +kernel
theorem dX1_read_61 : decode cX1_read 61 = .ok (.aload_n 0, 1) := by decide +kernel
theorem dX1_read_62 : decode cX1_read 62 = .ok (.getfield 8, 3) := by decide +kernel
theorem dX1_read_65 : decode cX1_read 65 = .ok (.bipush 64, 2) := by decide +kernel
theorem dX1_read_67 : decode cX1_read 67 = .ok (.iload_n 3, 1) := by decide +kernel
theorem dX1_read_68 : decode cX1_read 68 = .ok (.imul, 1) := by decide +kernel
theorem dX1_read_69 : decode cX1_read 69 = .ok (.iload 4, 2) := by decide +kernel
theorem dX1_read_71 : decode cX1_read 71 = .ok (.iadd, 1) := by decide +kernel
theorem dX1_read_72 : decode cX1_read 72 = .ok (.iaload, 1) := by decide +kernel
theorem dX1_read_73 : decode cX1_read 73 = .ok (.iastore, 1) := by decide +kernel
theorem dX1_read_74 : decode cX1_read 74 = .ok (.iinc 4 1, 3) := by decide +kernel
theorem dX1_read_77 : decode cX1_read 77 = .ok (.goto (-42), 3) := by decide +kernel
theorem dX1_read_80 : decode cX1_read 80 = .ok (.aload_n 0, 1) := by decide +kernel
theorem dX1_read_81 : decode cX1_read 81 = .ok (.iload_n 3, 1) := by decide +kernel
theorem dX1_read_82 : decode cX1_read 82 = .ok (.invokevirtual 88, 3) := by decide +kernel
theorem dX1_read_85 : decode cX1_read 85 = .ok (.ireturn, 1) := by decide +kernel
set_option maxRecDepth 20000 in
theorem ggX1_copy_X1_isPage : GoodIn wsX1_copy wsX1_isPage := goodIn_r _ [5, 6, 7, 4, 8] (by decide +kernel) (by decide +kernel)
set_option maxRecDepth 20000 in
theorem gX1_copy_X1_isPage : GoodIn wsX1_copy (va_wsS RX1 76 yX1_isPage wsX1_isPage) := goodIn_app (goodIn_of _ (by decide +kernel)) ggX1_copy_X1_isPage
set_option maxRecDepth 20000 in
theorem ggX1_copy_X1_place : GoodIn wsX1_copy wsX1_place := goodIn_r _ [11] (by decide +kernel) (by decide +kernel)
set_option maxRecDepth 20000 in
theorem gX1_copy_X1_place : GoodIn wsX1_copy (va_wsS RX1 80 yX1_place wsX1_place) := goodIn_app (goodIn_of _ (by decide +kernel)) ggX1_copy_X1_place
set_option maxRecDepth 20000 in
theorem ggX1_copy_X1_stateOf : GoodIn wsX1_copy wsX1_stateOf := goodIn_r _ [15, 16, 17, 18, 19, 4, 20, 21, 46, 47, 48, 49, 50, 51, 52, 53, 54, 55, 56, 57, 58, 59] (by decide +kernel) (by decide +kernel)
set_option maxRecDepth 20000 in
theorem gX1_copy_X1_stateOf : GoodIn wsX1_copy (wsV RX1 88 RX1 yX1_stateOf wsX1_stateOf) := goodIn_app (goodIn_of _ (by decide +kernel)) ggX1_copy_X1_stateOf
set_option maxRecDepth 20000 in
theorem ggX1_copy_X1_refused : GoodIn wsX1_copy wsX1_refused := goodIn_r _ [25, 26, 46, 47, 48, 49, 50, 51, 52, 53, 54, 55, 56, 57, 58, 59] (by decide +kernel) (by decide +kernel)
set_option maxRecDepth 20000 in
theorem gX1_copy_X1_refused : GoodIn wsX1_copy (wsV RX1 61 RX1 yX1_refused wsX1_refused) := goodIn_app (goodIn_of _ (by decide +kernel)) ggX1_copy_X1_refused
set_option maxRecDepth 20000 in
theorem ggX1_copy_X1_writePage : GoodIn wsX1_copy wsX1_writePage := goodIn_r _ [30, 31, 32, 33, 21, 16, 34, 35, 36, 4, 37, 38, 39, 40, 41, 42, 43, 1, 44, 45, 46, 47, 48, 49, 50, 51, 52, 53, 54, 55, 56, 57, 58, 59] (by decide +kernel) (by decide +kernel)
set_option maxRecDepth 20000 in
theorem gX1_copy_X1_writePage : GoodIn wsX1_copy (wsV RX1 84 RX1 yX1_writePage wsX1_writePage) := goodIn_app (goodIn_of _ (by decide +kernel)) ggX1_copy_X1_writePage
theorem dX1_copy_0 : decode cX1_copy 0 = .ok (.iload_n 1, 1) := by decide +kernel
theorem dX1_copy_1 : decode cX1_copy 1 = .ok (.iload_n 2, 1) := by decide +kernel
theorem dX1_copy_2 : decode cX1_copy 2 = .ok (.invokestatic 76, 3) := by decide +kernel
theorem dX1_copy_5 : decode cX1_copy 5 = .ok (.istore_n 3, 1) := by decide +kernel
theorem dX1_copy_6 : decode cX1_copy 6 = .ok (.iload_n 3, 1) := by decide +kernel
theorem dX1_copy_7 : decode cX1_copy 7 = .ok (.ifCond .eq 19, 3) := by decide +kernel
theorem dX1_copy_10 : decode cX1_copy 10 = .ok (.aload_n 0, 1) := by decide +kernel
theorem dX1_copy_11 : decode cX1_copy 11 = .ok (.iload_n 1, 1) := by decide +kernel
theorem dX1_copy_12 : decode cX1_copy 12 = .ok (.iload_n 2, 1) := by decide +kernel
theorem dX1_copy_13 : decode cX1_copy 13 = .ok (.invokestatic 80, 3) := by decide +kernel
theorem dX1_copy_16 : decode cX1_copy 16 = .ok (.invokevirtual 88, 3) := by decide +kernel
theorem dX1_copy_19 : decode cX1_copy 19 = .ok (.ifCond .eq 7, 3) := by decide +kernel
theorem dX1_copy_22 : decode cX1_copy 22 = .ok (.iconst 1, 1) := by decide +kernel
theorem dX1_copy_23 : decode cX1_copy 23 = .ok (.goto 4, 3) := by decide +kernel
theorem dX1_copy_26 : decode cX1_copy 26 = .ok (.iconst 0, 1) := by decide +kernel
theorem dX1_copy_27 : decode cX1_copy 27 = .ok (.istore 4, 2) := by decide +kernel
theorem dX1_copy_29 : decode cX1_copy 29 = .ok (.aload_n 0, 1) := by decide +kernel
theorem dX1_copy_30 : decode cX1_copy 30 = .ok (.aload_n 0, 1) := by decide +kernel
theorem dX1_copy_31 : decode cX1_copy 31 = .ok (.getfield 45, 3) := by decide +kernel
theorem dX1_copy_34 : decode cX1_copy 34 = .ok (.ifCond .ne 8, 3) := by decide +kernel
theorem dX1_copy_37 : decode cX1_copy 37 = .ok (.iload 4, 2) := by decide +kernel
theorem dX1_copy_39 : decode cX1_copy 39 = .ok (.ifCond .eq 7, 3) := by decide +kernel
theorem dX1_copy_42 : decode cX1_copy 42 = .ok (.iconst 1, 1) := by decide +kernel
theorem dX1_copy_43 : decode cX1_copy 43 = .ok (.goto 4, 3) := by decide +kernel
theorem dX1_copy_46 : decode cX1_copy 46 = .ok (.iconst 0, 1) := by decide +kernel
theorem dX1_copy_47 : decode cX1_copy 47 = .ok (.iload_n 3, 1) := by decide +kernel
theorem dX1_copy_48 : decode cX1_copy 48 = .ok (.ifCond .ne 7, 3) := by decide +kernel
theorem dX1_copy_51 : decode cX1_copy 51 = .ok (.iconst 1, 1) := by decide +kernel
theorem dX1_copy_52 : decode cX1_copy 52 = .ok (.goto 4, 3) := by decide +kernel
theorem dX1_copy_55 : decode cX1_copy 55 = .ok (.iconst 0, 1) := by decide +kernel
theorem dX1_copy_56 : decode cX1_copy 56 = .ok (.invokevirtual 61, 3) := by decide +kernel
theorem dX1_copy_59 : decode cX1_copy 59 = .ok (.ifCond .eq 5, 3) := by decide +kernel
theorem dX1_copy_62 : decode cX1_copy 62 = .ok (.iconst 0, 1) := by decide +kernel
theorem dX1_copy_63 : decode cX1_copy 63 = .ok (.ireturn, 1) := by decide +kernel
theorem dX1_copy_64 : decode cX1_copy 64 = .ok (.aload_n 0, 1) := by decide +kernel
theorem dX1_copy_65 : decode cX1_copy 65 = .ok (.iconst 1, 1) := by decide +kernel
theorem dX1_copy_66 : decode cX1_copy 66 = .ok (.iload_n 1, 1) := by decide +kernel
theorem dX1_copy_67 : decode cX1_copy 67 = .ok (.isub, 1) := by decide +kernel
theorem dX1_copy_68 : decode cX1_copy 68 = .ok (.iload_n 2, 1) := by decide +kernel
theorem dX1_copy_69 : decode cX1_copy 69 = .ok (.invokestatic 80, 3) := by decide +kernel
theorem dX1_copy_72 : decode cX1_copy 72 = .ok (.bipush 64, 2) := by decide +kernel
theorem dX1_copy_74 : decode cX1_copy 74 = .ok (.iload_n 1, 1) := by decide +kernel
theorem dX1_copy_75 : decode cX1_copy 75 = .ok (.iload_n 2, 1) := by decide +kernel
theorem dX1_copy_76 : decode cX1_copy 76 = .ok (.invokestatic 80, 3) := by decide +kernel
theorem dX1_copy_79 : decode cX1_copy 79 = .ok (.imul, 1) := by decide +kernel
theorem dX1_copy_80 : decode cX1_copy 80 = .ok (.iconst 0, 1) := by decide +kernel
theorem dX1_copy_81 : decode cX1_copy 81 = .ok (.invokevirtual 84, 3) := by decide +kernel
theorem dX1_copy_84 : decode cX1_copy 84 = .ok (.ireturn, 1) := by decide +kernel
set_option maxRecDepth 20000 in
theorem ggX1_append_X1_in : GoodIn wsX1_append wsX1_in := goodIn_r _ [10] (by decide +kernel) (by decide +kernel)
set_option maxRecDepth 20000 in
theorem gX1_append_X1_in : GoodIn wsX1_append (va_wsS RX1 41 yX1_in wsX1_in) := goodIn_app (goodIn_of _ (by decide +kernel)) ggX1_append_X1_in
set_option maxRecDepth 20000 in
theorem ggX1_append_X1_refused : GoodIn wsX1_append wsX1_refused := goodIn_r _ [14, 15, 16, 17, 18, 19, 20, 21, 22, 23, 24, 25, 26, 27, 28, 29] (by decide +kernel) (by decide +kernel)
set_option maxRecDepth 20000 in
theorem gX1_append_X1_refused : GoodIn wsX1_append (wsV RX1 61 RX1 yX1_refused wsX1_refused) := goodIn_app (goodIn_of _ (by decide +kernel)) ggX1_append_X1_refused
theorem dX1_append_0 : decode cX1_append 0 = .ok (.aload_n 0, 1) := by decide +kernel
theorem dX1_append_1 : decode cX1_append 1 = .ok (.aload_n 0, 1) := by decide +kernel
theorem dX1_append_2 : decode cX1_append 2 = .ok (.getfield 45, 3) := by decide +kernel
theorem dX1_append_5 : decode cX1_append 5 = .ok (.iload_n 1, 1) := by decide +kernel
theorem dX1_append_6 : decode cX1_append 6 = .ok (.iconst 1, 1) := by decide +kernel
theorem dX1_append_7 : decode cX1_append 7 = .ok (.bipush 64, 2) := by decide +kernel
theorem dX1_append_9 : decode cX1_append 9 = .ok (.invokestatic 41, 3) := by decide +kernel
theorem dX1_append_12 : decode cX1_append 12 = .ok (.ifCond .ne 7, 3) := by decide +kernel
theorem dX1_append_15 : decode cX1_append 15 = .ok (.iconst 1, 1) := by decide +kernel
theorem dX1_append_16 : decode cX1_append 16 = .ok (.goto 4, 3) := by decide +kernel
theorem dX1_append_19 : decode cX1_append 19 = .ok (.iconst 0, 1) := by decide +kernel
theorem dX1_append_20 : decode cX1_append 20 = .ok (.invokevirtual 61, 3) := by decide +kernel
theorem dX1_append_23 : decode cX1_append 23 = .ok (.ifCond .eq 5, 3) := by decide +kernel
theorem dX1_append_26 : decode cX1_append 26 = .ok (.iconst 0, 1) := by decide +kernel
theorem dX1_append_27 : decode cX1_append 27 = .ok (.ireturn, 1) := by decide +kernel
theorem dX1_append_28 : decode cX1_append 28 = .ok (.aload_n 0, 1) := by decide +kernel
theorem dX1_append_29 : decode cX1_append 29 = .ok (.getfield 52, 3) := by decide +kernel
theorem dX1_append_32 : decode cX1_append 32 = .ok (.aload_n 0, 1) := by decide +kernel
theorem dX1_append_33 : decode cX1_append 33 = .ok (.getfield 35, 3) := by decide +kernel
theorem dX1_append_36 : decode cX1_append 36 = .ok (.isub, 1) := by decide +kernel
theorem dX1_append_37 : decode cX1_append 37 = .ok (.iload_n 1, 1) := by decide +kernel
theorem dX1_append_38 : decode cX1_append 38 = .ok (.iadd, 1) := by decide +kernel
theorem dX1_append_39 : decode cX1_append 39 = .ok (.ldc 21, 2) := by decide +kernel
theorem dX1_append_41 : decode cX1_append 41 = .ok (.if_icmp .le 5, 3) := by decide +kernel
theorem dX1_append_44 : decode cX1_append 44 = .ok (.iconst (-1), 1) := by decide +kernel
theorem dX1_append_45 : decode cX1_append 45 = .ok (.ireturn, 1) := by decide +kernel
theorem dX1_append_46 : decode cX1_append 46 = .ok (.aload_n 0, 1) := by decide +kernel
theorem dX1_append_47 : decode cX1_append 47 = .ok (.getfield 52, 3) := by decide +kernel
theorem dX1_append_50 : decode cX1_append 50 = .ok (.istore_n 2, 1) := by decide +kernel
theorem dX1_append_51 : decode cX1_append 51 = .ok (.iconst 0, 1) := by decide +kernel
theorem dX1_append_52 : decode cX1_append 52 = .ok (.istore_n 3, 1) := by decide +kernel
theorem dX1_append_53 : decode cX1_append 53 = .ok (.iload_n 3, 1) := by decide +kernel
theorem dX1_append_54 : decode cX1_append 54 = .ok (.iload_n 1, 1) := by decide +kernel
theorem dX1_append_55 : decode cX1_append 55 = .ok (.if_icmp .ge 26, 3) := by decide +kernel
theorem dX1_append_58 : decode cX1_append 58 = .ok (.aload_n 0, 1) := by decide +kernel
theorem dX1_append_59 : decode cX1_append 59 = .ok (.getfield 22, 3) := by decide +kernel
theorem dX1_append_62 : decode cX1_append 62 = .ok (.iload_n 2, 1) := by decide +kernel
theorem dX1_append_63 : decode cX1_append 63 = .ok (.iload_n 3, 1) := by decide +kernel
theorem dX1_append_64 : decode cX1_append 64 = .ok (.iadd, 1) := by decide +kernel
theorem dX1_append_65 : decode cX1_append 65 = .ok (.ldc 21, 2) := by decide +kernel
theorem dX1_append_67 : decode cX1_append 67 = .ok (.irem, 1) := by decide +kernel
theorem dX1_append_68 : decode cX1_append 68 = .ok (.aload_n 0, 1) := by decide +kernel
theorem dX1_append_69 : decode cX1_append 69 = .ok (.getfield 28, 3) := by decide +kernel
theorem dX1_append_72 : decode cX1_append 72 = .ok (.iload_n 3, 1) := by decide +kernel
theorem dX1_append_73 : decode cX1_append 73 = .ok (.iaload, 1) := by decide +kernel
theorem dX1_append_74 : decode cX1_append 74 = .ok (.iastore, 1) := by decide +kernel
theorem dX1_append_75 : decode cX1_append 75 = .ok (.iinc 3 1, 3) := by decide +kernel
theorem dX1_append_78 : decode cX1_append 78 = .ok (.goto (-25), 3) := by decide +kernel
theorem dX1_append_81 : decode cX1_append 81 = .ok (.aload_n 0, 1) := by decide +kernel
theorem dX1_append_82 : decode cX1_append 82 = .ok (.iload_n 2, 1) := by decide +kernel
theorem dX1_append_83 : decode cX1_append 83 = .ok (.iload_n 1, 1) := by decide +kernel
theorem dX1_append_84 : decode cX1_append 84 = .ok (.iadd, 1) := by decide +kernel
theorem dX1_append_85 : decode cX1_append 85 = .ok (.putfield 52, 3) := by decide +kernel
theorem dX1_append_88 : decode cX1_append 88 = .ok (.iload_n 2, 1) := by decide +kernel
theorem dX1_append_89 : decode cX1_append 89 = .ok (.ireturn, 1) := by decide +kernel
set_option maxRecDepth 20000 in
theorem ggX1_force_X1_refused : GoodIn wsX1_force wsX1_refused := goodIn_r _ [9, 10, 22, 23, 24, 25, 26, 27, 28, 29, 30, 31, 32, 33, 34, 35] (by decide +kernel) (by decide +kernel)
set_option maxRecDepth 20000 in
theorem gX1_force_X1_refused : GoodIn wsX1_force (wsV RX1 61 RX1 yX1_refused wsX1_refused) := goodIn_app (goodIn_of _ (by decide +kernel)) ggX1_force_X1_refused
set_option maxRecDepth 20000 in
theorem ggX1_force_X1_canWrite : GoodIn wsX1_force wsX1_canWrite := goodIn_r _ [14, 15, 16, 17, 18, 19, 8, 20, 1, 4, 3, 21, 22, 23, 24, 25, 26, 27, 28, 29, 30, 31, 32, 33, 34, 35] (by decide +kernel) (by decide +kernel)
set_option maxRecDepth 20000 in
theorem gX1_force_X1_canWrite : GoodIn wsX1_force (wsV RX1 72 RX1 yX1_canWrite wsX1_canWrite) := goodIn_app (goodIn_of _ (by decide +kernel)) ggX1_force_X1_canWrite
theorem dX1_force_0 : decode cX1_force 0 = .ok (.aload_n 0, 1) := by decide +kernel
theorem dX1_force_1 : decode cX1_force 1 = .ok (.aload_n 0, 1) := by decide +kernel
theorem dX1_force_2 : decode cX1_force 2 = .ok (.getfield 45, 3) := by decide +kernel
theorem dX1_force_5 : decode cX1_force 5 = .ok (.iload_n 1, 1) := by decide +kernel
theorem dX1_force_6 : decode cX1_force 6 = .ok (.aload_n 0, 1) := by decide +kernel
theorem dX1_force_7 : decode cX1_force 7 = .ok (.getfield 35, 3) := by decide +kernel
theorem dX1_force_10 : decode cX1_force 10 = .ok (.if_icmp .lt 11, 3) := by decide +kernel
theorem dX1_force_13 : decode cX1_force 13 = .ok (.iload_n 1, 1) := by decide +kernel
theorem dX1_force_14 : decode cX1_force 14 = .ok (.aload_n 0, 1) := by decide +kernel
theorem dX1_force_15 : decode cX1_force 15 = .ok (.getfield 52, 3) := by decide +kernel
theorem dX1_force_18 : decode cX1_force 18 = .ok (.if_icmp .le 7, 3) := by decide +kernel
theorem dX1_force_21 : decode cX1_force 21 = .ok (.iconst 1, 1) := by decide +kernel
theorem dX1_force_22 : decode cX1_force 22 = .ok (.goto 4, 3) := by decide +kernel
theorem dX1_force_25 : decode cX1_force 25 = .ok (.iconst 0, 1) := by decide +kernel
theorem dX1_force_26 : decode cX1_force 26 = .ok (.invokevirtual 61, 3) := by decide +kernel
theorem dX1_force_29 : decode cX1_force 29 = .ok (.ifCond .eq 5, 3) := by decide +kernel
theorem dX1_force_32 : decode cX1_force 32 = .ok (.iconst 0, 1) := by decide +kernel
theorem dX1_force_33 : decode cX1_force 33 = .ok (.ireturn, 1) := by decide +kernel
theorem dX1_force_34 : decode cX1_force 34 = .ok (.iconst 0, 1) := by decide +kernel
theorem dX1_force_35 : decode cX1_force 35 = .ok (.istore_n 2, 1) := by decide +kernel
theorem dX1_force_36 : decode cX1_force 36 = .ok (.aload_n 0, 1) := by decide +kernel
theorem dX1_force_37 : decode cX1_force 37 = .ok (.getfield 49, 3) := by decide +kernel
theorem dX1_force_40 : decode cX1_force 40 = .ok (.iload_n 1, 1) := by decide +kernel
theorem dX1_force_41 : decode cX1_force 41 = .ok (.if_icmp .ge 28, 3) := by decide +kernel
theorem dX1_force_44 : decode cX1_force 44 = .ok (.aload_n 0, 1) := by decide +kernel
theorem dX1_force_45 : decode cX1_force 45 = .ok (.invokevirtual 72, 3) := by decide +kernel
theorem dX1_force_48 : decode cX1_force 48 = .ok (.ifCond .ne 5, 3) := by decide +kernel
theorem dX1_force_51 : decode cX1_force 51 = .ok (.iconst (-1), 1) := by decide +kernel
theorem dX1_force_52 : decode cX1_force 52 = .ok (.ireturn, 1) := by decide +kernel
theorem dX1_force_53 : decode cX1_force 53 = .ok (.aload_n 0, 1) := by decide +kernel
theorem dX1_force_54 : decode cX1_force 54 = .ok (.dup, 1) := by decide +kernel
theorem dX1_force_55 : decode cX1_force 55 = .ok (.getfield 49, 3) := by decide +kernel
theorem dX1_force_58 : decode cX1_force 58 = .ok (.iconst 1, 1) := by decide +kernel
theorem dX1_force_59 : decode cX1_force 59 = .ok (.iadd, 1) := by decide +kernel
theorem dX1_force_60 : decode cX1_force 60 = .ok (.putfield 49, 3) := by decide +kernel
theorem dX1_force_63 : decode cX1_force 63 = .ok (.iinc 2 1, 3) := by decide +kernel
theorem dX1_force_66 : decode cX1_force 66 = .ok (.goto (-30), 3) := by decide +kernel
theorem dX1_force_69 : decode cX1_force 69 = .ok (.iload_n 2, 1) := by decide +kernel
theorem dX1_force_70 : decode cX1_force 70 = .ok (.ireturn, 1) := by decide +kernel
set_option maxRecDepth 20000 in
theorem ggX1_readLog_X1_in : GoodIn wsX1_readLog wsX1_in := goodIn_r _ [10] (by decide +kernel) (by decide +kernel)
set_option maxRecDepth 20000 in
theorem gX1_readLog_X1_in : GoodIn wsX1_readLog (va_wsS RX1 41 yX1_in wsX1_in) := goodIn_app (goodIn_of _ (by decide +kernel)) ggX1_readLog_X1_in
set_option maxRecDepth 20000 in
theorem ggX1_readLog_X1_refused : GoodIn wsX1_readLog wsX1_refused := goodIn_r _ [14, 15, 16, 17, 18, 19, 20, 21, 22, 23, 24, 25, 26, 27, 28, 29] (by decide +kernel) (by decide +kernel)
set_option maxRecDepth 20000 in
theorem gX1_readLog_X1_refused : GoodIn wsX1_readLog (wsV RX1 61 RX1 yX1_refused wsX1_refused) := goodIn_app (goodIn_of _ (by decide +kernel)) ggX1_readLog_X1_refused
theorem dX1_readLog_0 : decode cX1_readLog 0 = .ok (.iload_n 2, 1) := by decide +kernel
theorem dX1_readLog_1 : decode cX1_readLog 1 = .ok (.iconst 1, 1) := by decide +kernel
theorem dX1_readLog_2 : decode cX1_readLog 2 = .ok (.bipush 64, 2) := by decide +kernel
theorem dX1_readLog_4 : decode cX1_readLog 4 = .ok (.invokestatic 41, 3) := by decide +kernel
theorem dX1_readLog_7 : decode cX1_readLog 7 = .ok (.ifCond .eq 21, 3) := by decide +kernel
theorem dX1_readLog_10 : decode cX1_readLog 10 = .ok (.iload_n 1, 1) := by decide +kernel
theorem dX1_readLog_11 : decode cX1_readLog 11 = .ok (.aload_n 0, 1) := by decide +kernel
theorem dX1_readLog_12 : decode cX1_readLog 12 = .ok (.getfield 35, 3) := by decide +kernel
theorem dX1_readLog_15 : decode cX1_readLog 15 = .ok (.if_icmp .lt 13, 3) := by decide +kernel
theorem dX1_readLog_18 : decode cX1_readLog 18 = .ok (.iload_n 1, 1) := by decide +kernel
theorem dX1_readLog_19 : decode cX1_readLog 19 = .ok (.aload_n 0, 1) := by decide +kernel
theorem dX1_readLog_20 : decode cX1_readLog 20 = .ok (.getfield 52, 3) := by decide +kernel
theorem dX1_readLog_23 : decode cX1_readLog 23 = .ok (.iload_n 2, 1) := by decide +kernel
theorem dX1_readLog_24 : decode cX1_readLog 24 = .ok (.isub, 1) := by decide +kernel
theorem dX1_readLog_25 : decode cX1_readLog 25 = .ok (.if_icmp .le 7, 3) := by decide +kernel
theorem dX1_readLog_28 : decode cX1_readLog 28 = .ok (.iconst 1, 1) := by decide +kernel
theorem dX1_readLog_29 : decode cX1_readLog 29 = .ok (.goto 4, 3) := by decide +kernel
theorem dX1_readLog_32 : decode cX1_readLog 32 = .ok (.iconst 0, 1) := by decide +kernel
theorem dX1_readLog_33 : decode cX1_readLog 33 = .ok (.istore_n 3, 1) := by decide +kernel
theorem dX1_readLog_34 : decode cX1_readLog 34 = .ok (.aload_n 0, 1) := by decide +kernel
theorem dX1_readLog_35 : decode cX1_readLog 35 = .ok (.aload_n 0, 1) := by decide +kernel
theorem dX1_readLog_36 : decode cX1_readLog 36 = .ok (.getfield 45, 3) := by decide +kernel
theorem dX1_readLog_39 : decode cX1_readLog 39 = .ok (.iload_n 3, 1) := by decide +kernel
theorem dX1_readLog_40 : decode cX1_readLog 40 = .ok (.invokevirtual 61, 3) := by decide +kernel
theorem dX1_readLog_43 : decode cX1_readLog 43 = .ok (.ifCond .ne 37, 3) := by decide +kernel
theorem dX1_readLog_46 : decode cX1_readLog 46 = .ok (.iconst 0, 1) := by decide +kernel
theorem dX1_readLog_47 : decode cX1_readLog 47 = .ok (.istore 4, 2) := by decide +kernel
theorem dX1_readLog_49 : decode cX1_readLog 49 = .ok (.iload 4, 2) := by decide +kernel
theorem dX1_readLog_51 : decode cX1_readLog 51 = .ok (.iload_n 2, 1) := by decide +kernel
theorem dX1_readLog_52 : decode cX1_readLog 52 = .ok (.if_icmp .ge 28, 3) := by decide +kernel
theorem dX1_readLog_55 : decode cX1_readLog 55 = .ok (.aload_n 0, 1) := by decide +kernel
theorem dX1_readLog_56 : decode cX1_readLog 56 = .ok (.getfield 28, 3) := by decide +kernel
theorem dX1_readLog_59 : decode cX1_readLog 59 = .ok (.iload 4, 2) := by decide +kernel
theorem dX1_readLog_61 : decode cX1_readLog 61 = .ok (.aload_n 0, 1) := by decide +kernel
theorem dX1_readLog_62 : decode cX1_readLog 62 = .ok (.getfield 22, 3) := by decide +kernel
theorem dX1_readLog_65 : decode cX1_readLog 65 = .ok (.iload_n 1, 1) := by decide +kernel
theorem dX1_readLog_66 : decode cX1_readLog 66 = .ok (.iload 4, 2) := by decide +kernel
theorem dX1_readLog_68 : decode cX1_readLog 68 = .ok (.iadd, 1) := by decide +kernel
theorem dX1_readLog_69 : decode cX1_readLog 69 = .ok (.ldc 21, 2) := by decide +kernel
theorem dX1_readLog_71 : decode cX1_readLog 71 = .ok (.irem, 1) := by decide +kernel
theorem dX1_readLog_72 : decode cX1_readLog 72 = .ok (.iaload, 1) := by decide +kernel
theorem dX1_readLog_73 : decode cX1_readLog 73 = .ok (.iastore, 1) := by decide +kernel
theorem dX1_readLog_74 : decode cX1_readLog 74 = .ok (.iinc 4 1, 3) := by decide +kernel
theorem dX1_readLog_77 : decode cX1_readLog 77 = .ok (.goto (-28), 3) := by decide +kernel
theorem dX1_readLog_80 : decode cX1_readLog 80 = .ok (.return_, 1) := by decide +kernel
set_option maxRecDepth 20000 in
theorem ggX1_giveBack_X1_refused : GoodIn wsX1_giveBack wsX1_refused := goodIn_r _ [8, 9, 10, 11, 12, 13, 14, 15, 16, 17, 18, 19, 20, 21, 22, 23] (by decide +kernel) (by decide +kernel)
set_option maxRecDepth 20000 in
theorem gX1_giveBack_X1_refused : GoodIn wsX1_giveBack (wsV RX1 61 RX1 yX1_refused wsX1_refused) := goodIn_app (goodIn_of _ (by decide +kernel)) ggX1_giveBack_X1_refused
theorem dX1_giveBack_0 : decode cX1_giveBack 0 = .ok (.aload_n 0, 1) := by decide +kernel
theorem dX1_giveBack_1 : decode cX1_giveBack 1 = .ok (.aload_n 0, 1) := by decide +kernel
theorem dX1_giveBack_2 : decode cX1_giveBack 2 = .ok (.getfield 45, 3) := by decide +kernel
theorem dX1_giveBack_5 : decode cX1_giveBack 5 = .ok (.iload_n 1, 1) := by decide +kernel
theorem dX1_giveBack_6 : decode cX1_giveBack 6 = .ok (.aload_n 0, 1) := by decide +kernel
theorem dX1_giveBack_7 : decode cX1_giveBack 7 = .ok (.getfield 35, 3) := by decide +kernel
theorem dX1_giveBack_10 : decode cX1_giveBack 10 = .ok (.if_icmp .lt 11, 3) := by decide +kernel
theorem dX1_giveBack_13 : decode cX1_giveBack 13 = .ok (.iload_n 1, 1) := by decide +kernel
theorem dX1_giveBack_14 : decode cX1_giveBack 14 = .ok (.aload_n 0, 1) := by decide +kernel
theorem dX1_giveBack_15 : decode cX1_giveBack 15 = .ok (.getfield 49, 3) := by decide +kernel
theorem dX1_giveBack_18 : decode cX1_giveBack 18 = .ok (.if_icmp .le 7, 3) := by decide +kernel
theorem dX1_giveBack_21 : decode cX1_giveBack 21 = .ok (.iconst 1, 1) := by decide +kernel
theorem dX1_giveBack_22 : decode cX1_giveBack 22 = .ok (.goto 4, 3) := by decide +kernel
theorem dX1_giveBack_25 : decode cX1_giveBack 25 = .ok (.iconst 0, 1) := by decide +kernel
theorem dX1_giveBack_26 : decode cX1_giveBack 26 = .ok (.invokevirtual 61, 3) := by decide +kernel
theorem dX1_giveBack_29 : decode cX1_giveBack 29 = .ok (.ifCond .ne 8, 3) := by decide +kernel
theorem dX1_giveBack_32 : decode cX1_giveBack 32 = .ok (.aload_n 0, 1) := by decide +kernel
theorem dX1_giveBack_33 : decode cX1_giveBack 33 = .ok (.iload_n 1, 1) := by decide +kernel
theorem dX1_giveBack_34 : decode cX1_giveBack 34 = .ok (.putfield 35, 3) := by decide +kernel
theorem dX1_giveBack_37 : decode cX1_giveBack 37 = .ok (.return_, 1) := by decide +kernel
set_option maxRecDepth 20000 in
theorem ggX1_log_X1_in : GoodIn wsX1_log wsX1_in := goodIn_r _ [7] (by decide +kernel) (by decide +kernel)
set_option maxRecDepth 20000 in
theorem gX1_log_X1_in : GoodIn wsX1_log (va_wsS RX1 41 yX1_in wsX1_in) := goodIn_app (goodIn_of _ (by decide +kernel)) ggX1_log_X1_in
set_option maxRecDepth 20000 in
theorem ggX1_log_X1_refused : GoodIn wsX1_log wsX1_refused := goodIn_r _ [11, 12, 13, 14, 15, 16, 17, 18, 19, 20, 21, 22, 23, 24, 25, 26] (by decide +kernel) (by decide +kernel)
set_option maxRecDepth 20000 in
theorem gX1_log_X1_refused : GoodIn wsX1_log (wsV RX1 61 RX1 yX1_refused wsX1_refused) := goodIn_app (goodIn_of _ (by decide +kernel)) ggX1_log_X1_refused
theorem dX1_log_0 : decode cX1_log 0 = .ok (.aload_n 0, 1) := by decide +kernel
theorem dX1_log_1 : decode cX1_log 1 = .ok (.iload_n 1, 1) := by decide +kernel
theorem dX1_log_2 : decode cX1_log 2 = .ok (.iconst 0, 1) := by decide +kernel
theorem dX1_log_3 : decode cX1_log 3 = .ok (.iconst 2, 1) := by decide +kernel
theorem dX1_log_4 : decode cX1_log 4 = .ok (.invokestatic 41, 3) := by decide +kernel
theorem dX1_log_7 : decode cX1_log 7 = .ok (.ifCond .ne 7, 3) := by decide +kernel
theorem dX1_log_10 : decode cX1_log 10 = .ok (.iconst 1, 1) := by decide +kernel
theorem dX1_log_11 : decode cX1_log 11 = .ok (.goto 4, 3) := by decide +kernel
theorem dX1_log_14 : decode cX1_log 14 = .ok (.iconst 0, 1) := by decide +kernel
theorem dX1_log_15 : decode cX1_log 15 = .ok (.iconst 0, 1) := by decide +kernel
theorem dX1_log_16 : decode cX1_log 16 = .ok (.invokevirtual 61, 3) := by decide +kernel
theorem dX1_log_19 : decode cX1_log 19 = .ok (.ifCond .eq 5, 3) := by decide +kernel
theorem dX1_log_22 : decode cX1_log 22 = .ok (.iconst 0, 1) := by decide +kernel
theorem dX1_log_23 : decode cX1_log 23 = .ok (.ireturn, 1) := by decide +kernel
theorem dX1_log_24 : decode cX1_log 24 = .ok (.iload_n 1, 1) := by decide +kernel
theorem dX1_log_25 : decode cX1_log 25 = .ok (.ifCond .ne 10, 3) := by decide +kernel
theorem dX1_log_28 : decode cX1_log 28 = .ok (.aload_n 0, 1) := by decide +kernel
theorem dX1_log_29 : decode cX1_log 29 = .ok (.getfield 35, 3) := by decide +kernel
theorem dX1_log_32 : decode cX1_log 32 = .ok (.goto 19, 3) := by decide +kernel
theorem dX1_log_35 : decode cX1_log 35 = .ok (.iload_n 1, 1) := by decide +kernel
theorem dX1_log_36 : decode cX1_log 36 = .ok (.iconst 1, 1) := by decide +kernel
theorem dX1_log_37 : decode cX1_log 37 = .ok (.if_icmp .ne 10, 3) := by decide +kernel
theorem dX1_log_40 : decode cX1_log 40 = .ok (.aload_n 0, 1) := by decide +kernel
theorem dX1_log_41 : decode cX1_log 41 = .ok (.getfield 49, 3) := by decide +kernel
theorem dX1_log_44 : decode cX1_log 44 = .ok (.goto 7, 3) := by decide +kernel
theorem dX1_log_47 : decode cX1_log 47 = .ok (.aload_n 0, 1) := by decide +kernel
theorem dX1_log_48 : decode cX1_log 48 = .ok (.getfield 52, 3) := by decide +kernel
theorem dX1_log_51 : decode cX1_log 51 = .ok (.ireturn, 1) := by decide +kernel
set_option maxRecDepth 20000 in
theorem ggX1_setRoot_X1_in : GoodIn wsX1_setRoot wsX1_in := goodIn_r _ [6] (by decide +kernel) (by decide +kernel)
set_option maxRecDepth 20000 in
theorem gX1_setRoot_X1_in : GoodIn wsX1_setRoot (va_wsS RX1 41 yX1_in wsX1_in) := goodIn_app (goodIn_of _ (by decide +kernel)) ggX1_setRoot_X1_in
set_option maxRecDepth 20000 in
theorem ggX1_setRoot_X1_refused : GoodIn wsX1_setRoot wsX1_refused := goodIn_r _ [10, 11, 25, 26, 27, 28, 29, 30, 31, 32, 33, 34, 35, 36, 37, 38] (by decide +kernel) (by decide +kernel)
set_option maxRecDepth 20000 in
theorem gX1_setRoot_X1_refused : GoodIn wsX1_setRoot (wsV RX1 61 RX1 yX1_refused wsX1_refused) := goodIn_app (goodIn_of _ (by decide +kernel)) ggX1_setRoot_X1_refused
set_option maxRecDepth 20000 in
theorem ggX1_setRoot_X1_canWrite : GoodIn wsX1_setRoot wsX1_canWrite := goodIn_r _ [15, 16, 17, 18, 19, 20, 5, 21, 1, 22, 23, 24, 25, 26, 27, 28, 29, 30, 31, 32, 33, 34, 35, 36, 37, 38] (by decide +kernel) (by decide +kernel)
set_option maxRecDepth 20000 in
theorem gX1_setRoot_X1_canWrite : GoodIn wsX1_setRoot (wsV RX1 72 RX1 yX1_canWrite wsX1_canWrite) := goodIn_app (goodIn_of _ (by decide +kernel)) ggX1_setRoot_X1_canWrite
theorem dX1_setRoot_0 : decode cX1_setRoot 0 = .ok (.aload_n 0, 1) := by decide +kernel
theorem dX1_setRoot_1 : decode cX1_setRoot 1 = .ok (.aload_n 0, 1) := by decide +kernel
theorem dX1_setRoot_2 : decode cX1_setRoot 2 = .ok (.getfield 45, 3) := by decide +kernel
theorem dX1_setRoot_5 : decode cX1_setRoot 5 = .ok (.iload_n 1, 1) := by decide +kernel
theorem dX1_setRoot_6 : decode cX1_setRoot 6 = .ok (.iconst 0, 1) := by decide +kernel
theorem dX1_setRoot_7 : decode cX1_setRoot 7 = .ok (.iconst 3, 1) := by decide +kernel
theorem dX1_setRoot_8 : decode cX1_setRoot 8 = .ok (.invokestatic 41, 3) := by decide +kernel
theorem dX1_setRoot_11 : decode cX1_setRoot 11 = .ok (.ifCond .ne 7, 3) := by decide +kernel
theorem dX1_setRoot_14 : decode cX1_setRoot 14 = .ok (.iconst 1, 1) := by decide +kernel
theorem dX1_setRoot_15 : decode cX1_setRoot 15 = .ok (.goto 4, 3) := by decide +kernel
theorem dX1_setRoot_18 : decode cX1_setRoot 18 = .ok (.iconst 0, 1) := by decide +kernel
theorem dX1_setRoot_19 : decode cX1_setRoot 19 = .ok (.invokevirtual 61, 3) := by decide +kernel
theorem dX1_setRoot_22 : decode cX1_setRoot 22 = .ok (.ifCond .ne 10, 3) := by decide +kernel
theorem dX1_setRoot_25 : decode cX1_setRoot 25 = .ok (.aload_n 0, 1) := by decide +kernel
theorem dX1_setRoot_26 : decode cX1_setRoot 26 = .ok (.invokevirtual 72, 3) := by decide +kernel
theorem dX1_setRoot_29 : decode cX1_setRoot 29 = .ok (.ifCond .ne 5, 3) := by decide +kernel
theorem dX1_setRoot_32 : decode cX1_setRoot 32 = .ok (.iconst 0, 1) := by decide +kernel
theorem dX1_setRoot_33 : decode cX1_setRoot 33 = .ok (.ireturn, 1) := by decide +kernel
theorem dX1_setRoot_34 : decode cX1_setRoot 34 = .ok (.aload_n 0, 1) := by decide +kernel
theorem dX1_setRoot_35 : decode cX1_setRoot 35 = .ok (.getfield 25, 3) := by decide +kernel
theorem dX1_setRoot_38 : decode cX1_setRoot 38 = .ok (.iload_n 1, 1) := by decide +kernel
theorem dX1_setRoot_39 : decode cX1_setRoot 39 = .ok (.iload_n 2, 1) := by decide +kernel
theorem dX1_setRoot_40 : decode cX1_setRoot 40 = .ok (.iastore, 1) := by decide +kernel
theorem dX1_setRoot_41 : decode cX1_setRoot 41 = .ok (.iconst 1, 1) := by decide +kernel
theorem dX1_setRoot_42 : decode cX1_setRoot 42 = .ok (.ireturn, 1) := by decide +kernel
set_option maxRecDepth 20000 in
theorem ggX1_root_X1_in : GoodIn wsX1_root wsX1_in := goodIn_r _ [5] (by decide +kernel) (by decide +kernel)
set_option maxRecDepth 20000 in
theorem gX1_root_X1_in : GoodIn wsX1_root (va_wsS RX1 41 yX1_in wsX1_in) := goodIn_app (goodIn_of _ (by decide +kernel)) ggX1_root_X1_in
set_option maxRecDepth 20000 in
theorem ggX1_root_X1_refused : GoodIn wsX1_root wsX1_refused := goodIn_r _ [9, 10, 11, 12, 13, 14, 15, 16, 17, 18, 19, 20, 21, 22, 23, 24] (by decide +kernel) (by decide +kernel)
set_option maxRecDepth 20000 in
theorem gX1_root_X1_refused : GoodIn wsX1_root (wsV RX1 61 RX1 yX1_refused wsX1_refused) := goodIn_app (goodIn_of _ (by decide +kernel)) ggX1_root_X1_refused
theorem dX1_root_0 : decode cX1_root 0 = .ok (.aload_n 0, 1) := by decide +kernel
theorem dX1_root_1 : decode cX1_root 1 = .ok (.iload_n 1, 1) := by decide +kernel
theorem dX1_root_2 : decode cX1_root 2 = .ok (.iconst 0, 1) := by decide +kernel
theorem dX1_root_3 : decode cX1_root 3 = .ok (.iconst 3, 1) := by decide +kernel
theorem dX1_root_4 : decode cX1_root 4 = .ok (.invokestatic 41, 3) := by decide +kernel
theorem dX1_root_7 : decode cX1_root 7 = .ok (.ifCond .ne 7, 3) := by decide +kernel
theorem dX1_root_10 : decode cX1_root 10 = .ok (.iconst 1, 1) := by decide +kernel
theorem dX1_root_11 : decode cX1_root 11 = .ok (.goto 4, 3) := by decide +kernel
theorem dX1_root_14 : decode cX1_root 14 = .ok (.iconst 0, 1) := by decide +kernel
theorem dX1_root_15 : decode cX1_root 15 = .ok (.iconst 0, 1) := by decide +kernel
theorem dX1_root_16 : decode cX1_root 16 = .ok (.invokevirtual 61, 3) := by decide +kernel
theorem dX1_root_19 : decode cX1_root 19 = .ok (.ifCond .eq 7, 3) := by decide +kernel
theorem dX1_root_22 : decode cX1_root 22 = .ok (.iconst 0, 1) := by decide +kernel
theorem dX1_root_23 : decode cX1_root 23 = .ok (.goto 9, 3) := by decide +kernel
theorem dX1_root_26 : decode cX1_root 26 = .ok (.aload_n 0, 1) := by decide +kernel
theorem dX1_root_27 : decode cX1_root 27 = .ok (.getfield 25, 3) := by decide +kernel
theorem dX1_root_30 : decode cX1_root 30 = .ok (.iload_n 1, 1) := by decide +kernel
theorem dX1_root_31 : decode cX1_root 31 = .ok (.iaload, 1) := by decide +kernel
theorem dX1_root_32 : decode cX1_root 32 = .ok (.ireturn, 1) := by decide +kernel
set_option maxRecDepth 20000 in
theorem ggX1_lose_X1_isPage : GoodIn wsX1_lose wsX1_isPage := goodIn_r _ [5, 6, 7, 4, 8] (by decide +kernel) (by decide +kernel)
set_option maxRecDepth 20000 in
theorem gX1_lose_X1_isPage : GoodIn wsX1_lose (va_wsS RX1 76 yX1_isPage wsX1_isPage) := goodIn_app (goodIn_of _ (by decide +kernel)) ggX1_lose_X1_isPage
set_option maxRecDepth 20000 in
theorem ggX1_lose_X1_refused : GoodIn wsX1_lose wsX1_refused := goodIn_r _ [12, 13, 17, 18, 19, 20, 21, 22, 23, 24, 25, 26, 27, 28, 29, 30] (by decide +kernel) (by decide +kernel)
set_option maxRecDepth 20000 in
theorem gX1_lose_X1_refused : GoodIn wsX1_lose (wsV RX1 61 RX1 yX1_refused wsX1_refused) := goodIn_app (goodIn_of _ (by decide +kernel)) ggX1_lose_X1_refused
set_option maxRecDepth 20000 in
theorem ggX1_lose_X1_place : GoodIn wsX1_lose wsX1_place := goodIn_r _ [16] (by decide +kernel) (by decide +kernel)
set_option maxRecDepth 20000 in
theorem gX1_lose_X1_place : GoodIn wsX1_lose (va_wsS RX1 80 yX1_place wsX1_place) := goodIn_app (goodIn_of _ (by decide +kernel)) ggX1_lose_X1_place
theorem dX1_lose_0 : decode cX1_lose 0 = .ok (.aload_n 0, 1) := by decide +kernel
theorem dX1_lose_1 : decode cX1_lose 1 = .ok (.iload_n 1, 1) := by decide +kernel
theorem dX1_lose_2 : decode cX1_lose 2 = .ok (.iload_n 2, 1) := by decide +kernel
theorem dX1_lose_3 : decode cX1_lose 3 = .ok (.invokestatic 76, 3) := by decide +kernel
theorem dX1_lose_6 : decode cX1_lose 6 = .ok (.ifCond .ne 7, 3) := by decide +kernel
theorem dX1_lose_9 : decode cX1_lose 9 = .ok (.iconst 1, 1) := by decide +kernel
theorem dX1_lose_10 : decode cX1_lose 10 = .ok (.goto 4, 3) := by decide +kernel
theorem dX1_lose_13 : decode cX1_lose 13 = .ok (.iconst 0, 1) := by decide +kernel
theorem dX1_lose_14 : decode cX1_lose 14 = .ok (.iconst 0, 1) := by decide +kernel
theorem dX1_lose_15 : decode cX1_lose 15 = .ok (.invokevirtual 61, 3) := by decide +kernel
theorem dX1_lose_18 : decode cX1_lose 18 = .ok (.ifCond .ne 14, 3) := by decide +kernel
theorem dX1_lose_21 : decode cX1_lose 21 = .ok (.aload_n 0, 1) := by decide +kernel
theorem dX1_lose_22 : decode cX1_lose 22 = .ok (.getfield 17, 3) := by decide +kernel
theorem dX1_lose_25 : decode cX1_lose 25 = .ok (.iload_n 1, 1) := by decide +kernel
theorem dX1_lose_26 : decode cX1_lose 26 = .ok (.iload_n 2, 1) := by decide +kernel
theorem dX1_lose_27 : decode cX1_lose 27 = .ok (.invokestatic 80, 3) := by decide +kernel
theorem dX1_lose_30 : decode cX1_lose 30 = .ok (.iconst 1, 1) := by decide +kernel
theorem dX1_lose_31 : decode cX1_lose 31 = .ok (.bastore, 1) := by decide +kernel
theorem dX1_lose_32 : decode cX1_lose 32 = .ok (.return_, 1) := by decide +kernel
set_option maxRecDepth 20000 in
theorem ggX1_stamp_X1_isPage : GoodIn wsX1_stamp wsX1_isPage := goodIn_r _ [5, 6, 7, 4, 8] (by decide +kernel) (by decide +kernel)
set_option maxRecDepth 20000 in
theorem gX1_stamp_X1_isPage : GoodIn wsX1_stamp (va_wsS RX1 76 yX1_isPage wsX1_isPage) := goodIn_app (goodIn_of _ (by decide +kernel)) ggX1_stamp_X1_isPage
set_option maxRecDepth 20000 in
theorem ggX1_stamp_X1_in : GoodIn wsX1_stamp wsX1_in := goodIn_r _ [8] (by decide +kernel) (by decide +kernel)
set_option maxRecDepth 20000 in
theorem gX1_stamp_X1_in : GoodIn wsX1_stamp (va_wsS RX1 41 yX1_in wsX1_in) := goodIn_app (goodIn_of _ (by decide +kernel)) ggX1_stamp_X1_in
set_option maxRecDepth 20000 in
theorem ggX1_stamp_X1_refused : GoodIn wsX1_stamp wsX1_refused := goodIn_r _ [12, 13, 17, 18, 19, 20, 21, 22, 23, 24, 25, 26, 27, 28, 29, 30] (by decide +kernel) (by decide +kernel)
set_option maxRecDepth 20000 in
theorem gX1_stamp_X1_refused : GoodIn wsX1_stamp (wsV RX1 61 RX1 yX1_refused wsX1_refused) := goodIn_app (goodIn_of _ (by decide +kernel)) ggX1_stamp_X1_refused
set_option maxRecDepth 20000 in
theorem ggX1_stamp_X1_place : GoodIn wsX1_stamp wsX1_place := goodIn_r _ [16] (by decide +kernel) (by decide +kernel)
set_option maxRecDepth 20000 in
theorem gX1_stamp_X1_place : GoodIn wsX1_stamp (va_wsS RX1 80 yX1_place wsX1_place) := goodIn_app (goodIn_of _ (by decide +kernel)) ggX1_stamp_X1_place
theorem dX1_stamp_0 : decode cX1_stamp 0 = .ok (.aload_n 0, 1) := by decide +kernel
theorem dX1_stamp_1 : decode cX1_stamp 1 = .ok (.iload_n 1, 1) := by decide +kernel
theorem dX1_stamp_2 : decode cX1_stamp 2 = .ok (.iload_n 2, 1) := by decide +kernel
theorem dX1_stamp_3 : decode cX1_stamp 3 = .ok (.invokestatic 76, 3) := by decide +kernel
theorem dX1_stamp_6 : decode cX1_stamp 6 = .ok (.ifCond .eq 12, 3) := by decide +kernel
theorem dX1_stamp_9 : decode cX1_stamp 9 = .ok (.iload_n 3, 1) := by decide +kernel
theorem dX1_stamp_10 : decode cX1_stamp 10 = .ok (.iconst 0, 1) := by decide +kernel
theorem dX1_stamp_11 : decode cX1_stamp 11 = .ok (.iconst 1, 1) := by decide +kernel
theorem dX1_stamp_12 : decode cX1_stamp 12 = .ok (.invokestatic 41, 3) := by decide +kernel
theorem dX1_stamp_15 : decode cX1_stamp 15 = .ok (.ifCond .ne 7, 3) := by decide +kernel
theorem dX1_stamp_18 : decode cX1_stamp 18 = .ok (.iconst 1, 1) := by decide +kernel
theorem dX1_stamp_19 : decode cX1_stamp 19 = .ok (.goto 4, 3) := by decide +kernel
theorem dX1_stamp_22 : decode cX1_stamp 22 = .ok (.iconst 0, 1) := by decide +kernel
theorem dX1_stamp_23 : decode cX1_stamp 23 = .ok (.iconst 0, 1) := by decide +kernel
theorem dX1_stamp_24 : decode cX1_stamp 24 = .ok (.invokevirtual 61, 3) := by decide +kernel
theorem dX1_stamp_27 : decode cX1_stamp 27 = .ok (.ifCond .eq 5, 3) := by decide +kernel
theorem dX1_stamp_30 : decode cX1_stamp 30 = .ok (.iconst 0, 1) := by decide +kernel
theorem dX1_stamp_31 : decode cX1_stamp 31 = .ok (.ireturn, 1) := by decide +kernel
theorem dX1_stamp_32 : decode cX1_stamp 32 = .ok (.aload_n 0, 1) := by decide +kernel
theorem dX1_stamp_33 : decode cX1_stamp 33 = .ok (.getfield 14, 3) := by decide +kernel
theorem dX1_stamp_36 : decode cX1_stamp 36 = .ok (.iconst 2, 1) := by decide +kernel
theorem dX1_stamp_37 : decode cX1_stamp 37 = .ok (.iload_n 1, 1) := by decide +kernel
theorem dX1_stamp_38 : decode cX1_stamp 38 = .ok (.iload_n 2, 1) := by decide +kernel
theorem dX1_stamp_39 : decode cX1_stamp 39 = .ok (.invokestatic 80, 3) := by decide +kernel
theorem dX1_stamp_42 : decode cX1_stamp 42 = .ok (.imul, 1) := by decide +kernel
theorem dX1_stamp_43 : decode cX1_stamp 43 = .ok (.iload_n 3, 1) := by decide +kernel
theorem dX1_stamp_44 : decode cX1_stamp 44 = .ok (.iadd, 1) := by decide +kernel
theorem dX1_stamp_45 : decode cX1_stamp 45 = .ok (.iaload, 1) := by decide +kernel
theorem dX1_stamp_46 : decode cX1_stamp 46 = .ok (.ireturn, 1) := by decide +kernel
set_option maxRecDepth 20000 in
theorem ggX1_count_X1_in : GoodIn wsX1_count wsX1_in := goodIn_r _ [4] (by decide +kernel) (by decide +kernel)
set_option maxRecDepth 20000 in
theorem gX1_count_X1_in : GoodIn wsX1_count (va_wsS RX1 41 yX1_in wsX1_in) := goodIn_app (goodIn_of _ (by decide +kernel)) ggX1_count_X1_in
set_option maxRecDepth 20000 in
theorem ggX1_count_X1_refused : GoodIn wsX1_count wsX1_refused := goodIn_r _ [8, 9, 23, 24, 25, 26, 27, 28, 29, 30, 31, 32, 33, 34, 35, 36] (by decide +kernel) (by decide +kernel)
set_option maxRecDepth 20000 in
theorem gX1_count_X1_refused : GoodIn wsX1_count (wsV RX1 61 RX1 yX1_refused wsX1_refused) := goodIn_app (goodIn_of _ (by decide +kernel)) ggX1_count_X1_refused
set_option maxRecDepth 20000 in
theorem ggX1_count_X1_place : GoodIn wsX1_count wsX1_place := goodIn_r _ [12] (by decide +kernel) (by decide +kernel)
set_option maxRecDepth 20000 in
theorem gX1_count_X1_place : GoodIn wsX1_count (va_wsS RX1 80 yX1_place wsX1_place) := goodIn_app (goodIn_of _ (by decide +kernel)) ggX1_count_X1_place
set_option maxRecDepth 20000 in
theorem ggX1_count_X1_stateOf : GoodIn wsX1_count wsX1_stateOf := goodIn_r _ [16, 17, 18, 19, 20, 3, 21, 22, 23, 24, 25, 26, 27, 28, 29, 30, 31, 32, 33, 34, 35, 36] (by decide +kernel) (by decide +kernel)
set_option maxRecDepth 20000 in
theorem gX1_count_X1_stateOf : GoodIn wsX1_count (wsV RX1 88 RX1 yX1_stateOf wsX1_stateOf) := goodIn_app (goodIn_of _ (by decide +kernel)) ggX1_count_X1_stateOf
theorem dX1_count_0 : decode cX1_count 0 = .ok (.aload_n 0, 1) := by decide +kernel
theorem dX1_count_1 : decode cX1_count 1 = .ok (.iload_n 1, 1) := by decide +kernel
theorem dX1_count_2 : decode cX1_count 2 = .ok (.iconst 0, 1) := by decide +kernel
theorem dX1_count_3 : decode cX1_count 3 = .ok (.iconst 1, 1) := by decide +kernel
theorem dX1_count_4 : decode cX1_count 4 = .ok (.invokestatic 41, 3) := by decide +kernel
theorem dX1_count_7 : decode cX1_count 7 = .ok (.ifCond .eq 12, 3) := by decide +kernel
theorem dX1_count_10 : decode cX1_count 10 = .ok (.iload_n 2, 1) := by decide +kernel
theorem dX1_count_11 : decode cX1_count 11 = .ok (.iconst 0, 1) := by decide +kernel
theorem dX1_count_12 : decode cX1_count 12 = .ok (.iconst 2, 1) := by decide +kernel
theorem dX1_count_13 : decode cX1_count 13 = .ok (.invokestatic 41, 3) := by decide +kernel
theorem dX1_count_16 : decode cX1_count 16 = .ok (.ifCond .ne 7, 3) := by decide +kernel
theorem dX1_count_19 : decode cX1_count 19 = .ok (.iconst 1, 1) := by decide +kernel
theorem dX1_count_20 : decode cX1_count 20 = .ok (.goto 4, 3) := by decide +kernel
theorem dX1_count_23 : decode cX1_count 23 = .ok (.iconst 0, 1) := by decide +kernel
theorem dX1_count_24 : decode cX1_count 24 = .ok (.iconst 0, 1) := by decide +kernel
theorem dX1_count_25 : decode cX1_count 25 = .ok (.invokevirtual 61, 3) := by decide +kernel
theorem dX1_count_28 : decode cX1_count 28 = .ok (.ifCond .eq 5, 3) := by decide +kernel
theorem dX1_count_31 : decode cX1_count 31 = .ok (.iconst 0, 1) := by decide +kernel
theorem dX1_count_32 : decode cX1_count 32 = .ok (.ireturn, 1) := by decide +kernel
theorem dX1_count_33 : decode cX1_count 33 = .ok (.iconst 0, 1) := by decide +kernel
theorem dX1_count_34 : decode cX1_count 34 = .ok (.istore_n 3, 1) := by decide +kernel
theorem dX1_count_35 : decode cX1_count 35 = .ok (.iconst 0, 1) := by decide +kernel
theorem dX1_count_36 : decode cX1_count 36 = .ok (.istore 4, 2) := by decide +kernel
theorem dX1_count_38 : decode cX1_count 38 = .ok (.iload 4, 2) := by decide +kernel
theorem dX1_count_40 : decode cX1_count 40 = .ok (.sipush 256, 3) := by decide +kernel
theorem dX1_count_43 : decode cX1_count 43 = .ok (.if_icmp .ge 31, 3) := by decide +kernel
theorem dX1_count_46 : decode cX1_count 46 = .ok (.aload_n 0, 1) := by decide +kernel
theorem dX1_count_47 : decode cX1_count 47 = .ok (.iload_n 1, 1) := by decide +kernel
theorem dX1_count_48 : decode cX1_count 48 = .ok (.iload 4, 2) := by decide +kernel
theorem dX1_count_50 : decode cX1_count 50 = .ok (.invokestatic 80, 3) := by decide +kernel
theorem dX1_count_53 : decode cX1_count 53 = .ok (.invokevirtual 88, 3) := by decide +kernel
theorem dX1_count_56 : decode cX1_count 56 = .ok (.iload_n 2, 1) := by decide +kernel
theorem dX1_count_57 : decode cX1_count 57 = .ok (.if_icmp .ne 9, 3) := by decide +kernel
theorem dX1_count_60 : decode cX1_count 60 = .ok (.iload_n 3, 1) := by decide +kernel
theorem dX1_count_61 : decode cX1_count 61 = .ok (.iconst 1, 1) := by decide +kernel
theorem dX1_count_62 : decode cX1_count 62 = .ok (.iadd, 1) := by decide +kernel
theorem dX1_count_63 : decode cX1_count 63 = .ok (.goto 4, 3) := by decide +kernel
theorem dX1_count_66 : decode cX1_count 66 = .ok (.iload_n 3, 1) := by decide +kernel
theorem dX1_count_67 : decode cX1_count 67 = .ok (.istore_n 3, 1) := by decide +kernel
theorem dX1_count_68 : decode cX1_count 68 = .ok (.iinc 4 1, 3) := by decide +kernel
theorem dX1_count_71 : decode cX1_count 71 = .ok (.goto (-33), 3) := by decide +kernel
theorem dX1_count_74 : decode cX1_count 74 = .ok (.iload_n 3, 1) := by decide +kernel
theorem dX1_count_75 : decode cX1_count 75 = .ok (.ireturn, 1) := by decide +kernel
theorem dX1_writes_0 : decode cX1_writes 0 = .ok (.aload_n 0, 1) := by decide +kernel
theorem dX1_writes_1 : decode cX1_writes 1 = .ok (.iconst 0, 1) := by decide +kernel
theorem dX1_writes_2 : decode cX1_writes 2 = .ok (.putfield 38, 3) := by decide +kernel
theorem dX1_writes_5 : decode cX1_writes 5 = .ok (.aload_n 0, 1) := by decide +kernel
theorem dX1_writes_6 : decode cX1_writes 6 = .ok (.getfield 58, 3) := by decide +kernel
theorem dX1_writes_9 : decode cX1_writes 9 = .ok (.ireturn, 1) := by decide +kernel
set_option maxRecDepth 20000 in
theorem ggX1_cutAfter_X1_refused : GoodIn wsX1_cutAfter wsX1_refused := goodIn_r _ [6, 7, 8, 9, 10, 11, 12, 13, 14, 15, 16, 17, 18, 19, 20, 21] (by decide +kernel) (by decide +kernel)
set_option maxRecDepth 20000 in
theorem gX1_cutAfter_X1_refused : GoodIn wsX1_cutAfter (wsV RX1 61 RX1 yX1_refused wsX1_refused) := goodIn_app (goodIn_of _ (by decide +kernel)) ggX1_cutAfter_X1_refused
theorem dX1_cutAfter_0 : decode cX1_cutAfter 0 = .ok (.aload_n 0, 1) := by decide +kernel
theorem dX1_cutAfter_1 : decode cX1_cutAfter 1 = .ok (.iload_n 1, 1) := by decide +kernel
theorem dX1_cutAfter_2 : decode cX1_cutAfter 2 = .ok (.iconst (-1), 1) := by decide +kernel
theorem dX1_cutAfter_3 : decode cX1_cutAfter 3 = .ok (.if_icmp .ge 7, 3) := by decide +kernel
theorem dX1_cutAfter_6 : decode cX1_cutAfter 6 = .ok (.iconst 1, 1) := by decide +kernel
theorem dX1_cutAfter_7 : decode cX1_cutAfter 7 = .ok (.goto 4, 3) := by decide +kernel
theorem dX1_cutAfter_10 : decode cX1_cutAfter 10 = .ok (.iconst 0, 1) := by decide +kernel
theorem dX1_cutAfter_11 : decode cX1_cutAfter 11 = .ok (.iconst 0, 1) := by decide +kernel
theorem dX1_cutAfter_12 : decode cX1_cutAfter 12 = .ok (.invokevirtual 61, 3) := by decide +kernel
theorem dX1_cutAfter_15 : decode cX1_cutAfter 15 = .ok (.ifCond .ne 8, 3) := by decide +kernel
theorem dX1_cutAfter_18 : decode cX1_cutAfter 18 = .ok (.aload_n 0, 1) := by decide +kernel
theorem dX1_cutAfter_19 : decode cX1_cutAfter 19 = .ok (.iload_n 1, 1) := by decide +kernel
theorem dX1_cutAfter_20 : decode cX1_cutAfter 20 = .ok (.putfield 31, 3) := by decide +kernel
theorem dX1_cutAfter_23 : decode cX1_cutAfter 23 = .ok (.return_, 1) := by decide +kernel
set_option maxRecDepth 20000 in
theorem ggX1_cut_X1_fail : GoodIn wsX1_cut wsX1_fail := goodIn_r _ [7, 2, 8, 9, 10, 11, 12, 13, 14, 15, 16, 17, 18, 19, 20, 21, 22, 23, 24] (by decide +kernel) (by decide +kernel)
set_option maxRecDepth 20000 in
theorem gX1_cut_X1_fail : GoodIn wsX1_cut (wsV RX1 55 RX1 yX1_fail wsX1_fail) := goodIn_app (goodIn_of _ (by decide +kernel)) ggX1_cut_X1_fail
theorem dX1_cut_0 : decode cX1_cut 0 = .ok (.aload_n 0, 1) := by decide +kernel
theorem dX1_cut_1 : decode cX1_cut 1 = .ok (.iconst 0, 1) := by decide +kernel
theorem dX1_cut_2 : decode cX1_cut 2 = .ok (.putfield 38, 3) := by decide +kernel
theorem dX1_cut_5 : decode cX1_cut 5 = .ok (.aload_n 0, 1) := by decide +kernel
theorem dX1_cut_6 : decode cX1_cut 6 = .ok (.getfield 45, 3) := by decide +kernel
theorem dX1_cut_9 : decode cX1_cut 9 = .ok (.ifCond .eq 5, 3) := by decide +kernel
theorem dX1_cut_12 : decode cX1_cut 12 = .ok (.iconst 0, 1) := by decide +kernel
theorem dX1_cut_13 : decode cX1_cut 13 = .ok (.ireturn, 1) := by decide +kernel
theorem dX1_cut_14 : decode cX1_cut 14 = .ok (.aload_n 0, 1) := by decide +kernel
theorem dX1_cut_15 : decode cX1_cut 15 = .ok (.invokevirtual 55, 3) := by decide +kernel
theorem dX1_cut_18 : decode cX1_cut 18 = .ok (.iconst 1, 1) := by decide +kernel
theorem dX1_cut_19 : decode cX1_cut 19 = .ok (.ireturn, 1) := by decide +kernel
theorem dX1_start_0 : decode cX1_start 0 = .ok (.aload_n 0, 1) := by decide +kernel
theorem dX1_start_1 : decode cX1_start 1 = .ok (.iconst 0, 1) := by decide +kernel
theorem dX1_start_2 : decode cX1_start 2 = .ok (.putfield 38, 3) := by decide +kernel
theorem dX1_start_5 : decode cX1_start 5 = .ok (.aload_n 0, 1) := by decide +kernel
theorem dX1_start_6 : decode cX1_start 6 = .ok (.getfield 45, 3) := by decide +kernel
theorem dX1_start_9 : decode cX1_start 9 = .ok (.ifCond .ne 5, 3) := by decide +kernel
theorem dX1_start_12 : decode cX1_start 12 = .ok (.iconst 0, 1) := by decide +kernel
theorem dX1_start_13 : decode cX1_start 13 = .ok (.ireturn, 1) := by decide +kernel
theorem dX1_start_14 : decode cX1_start 14 = .ok (.aload_n 0, 1) := by decide +kernel
theorem dX1_start_15 : decode cX1_start 15 = .ok (.iconst 0, 1) := by decide +kernel
theorem dX1_start_16 : decode cX1_start 16 = .ok (.putfield 45, 3) := by decide +kernel
theorem dX1_start_19 : decode cX1_start 19 = .ok (.aload_n 0, 1) := by decide +kernel
theorem dX1_start_20 : decode cX1_start 20 = .ok (.iconst (-1), 1) := by decide +kernel
theorem dX1_start_21 : decode cX1_start 21 = .ok (.putfield 31, 3) := by decide +kernel
theorem dX1_start_24 : decode cX1_start 24 = .ok (.iconst 1, 1) := by decide +kernel
theorem dX1_start_25 : decode cX1_start 25 = .ok (.ireturn, 1) := by decide +kernel
theorem dX1_isOn_0 : decode cX1_isOn 0 = .ok (.aload_n 0, 1) := by decide +kernel
theorem dX1_isOn_1 : decode cX1_isOn 1 = .ok (.iconst 0, 1) := by decide +kernel
theorem dX1_isOn_2 : decode cX1_isOn 2 = .ok (.putfield 38, 3) := by decide +kernel
theorem dX1_isOn_5 : decode cX1_isOn 5 = .ok (.aload_n 0, 1) := by decide +kernel
theorem dX1_isOn_6 : decode cX1_isOn 6 = .ok (.getfield 45, 3) := by decide +kernel
theorem dX1_isOn_9 : decode cX1_isOn 9 = .ok (.ifCond .ne 7, 3) := by decide +kernel
theorem dX1_isOn_12 : decode cX1_isOn 12 = .ok (.iconst 1, 1) := by decide +kernel
theorem dX1_isOn_13 : decode cX1_isOn 13 = .ok (.goto 4, 3) := by decide +kernel
theorem dX1_isOn_16 : decode cX1_isOn 16 = .ok (.iconst 0, 1) := by decide +kernel
theorem dX1_isOn_17 : decode cX1_isOn 17 = .ok (.ireturn, 1) := by decide +kernel
theorem dJ7_fill_53178_0 : decode cJ7_fill_53178 0 = .ok (.iconst 0, 1) := by decide +kernel
theorem dJ7_fill_53178_1 : decode cJ7_fill_53178 1 = .ok (.istore_n 2, 1) := by decide +kernel
theorem dJ7_fill_53178_2 : decode cJ7_fill_53178 2 = .ok (.aload_n 0, 1) := by decide +kernel
theorem dJ7_fill_53178_3 : decode cJ7_fill_53178 3 = .ok (.arraylength, 1) := by decide +kernel
theorem dJ7_fill_53178_4 : decode cJ7_fill_53178 4 = .ok (.istore_n 3, 1) := by decide +kernel
theorem dJ7_fill_53178_5 : decode cJ7_fill_53178 5 = .ok (.iload_n 2, 1) := by decide +kernel
theorem dJ7_fill_53178_6 : decode cJ7_fill_53178 6 = .ok (.iload_n 3, 1) := by decide +kernel
theorem dJ7_fill_53178_7 : decode cJ7_fill_53178 7 = .ok (.if_icmp .ge 13, 3) := by decide +kernel
theorem dJ7_fill_53178_10 : decode cJ7_fill_53178 10 = .ok (.aload_n 0, 1) := by decide +kernel
theorem dJ7_fill_53178_11 : decode cJ7_fill_53178 11 = .ok (.iload_n 2, 1) := by decide +kernel
theorem dJ7_fill_53178_12 : decode cJ7_fill_53178 12 = .ok (.iload_n 1, 1) := by decide +kernel
theorem dJ7_fill_53178_13 : decode cJ7_fill_53178 13 = .ok (.iastore, 1) := by decide +kernel
theorem dJ7_fill_53178_14 : decode cJ7_fill_53178 14 = .ok (.iinc 2 1, 3) := by decide +kernel
theorem dJ7_fill_53178_17 : decode cJ7_fill_53178 17 = .ok (.goto (-12), 3) := by decide +kernel
theorem dJ7_fill_53178_20 : decode cJ7_fill_53178 20 = .ok (.return_, 1) := by decide +kernel
