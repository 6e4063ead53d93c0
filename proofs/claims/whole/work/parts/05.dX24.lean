theorem dX2_init_0 : decode cX2_init 0 = .ok (.aload_n 0, 1) := by decide +kernel
theorem dX2_init_1 : decode cX2_init 1 = .ok (.invokespecial 1, 3) := by decide +kernel
theorem dX2_init_4 : decode cX2_init 4 = .ok (.aload_n 0, 1) := by decide +kernel
theorem dX2_init_5 : decode cX2_init 5 = .ok (.iconst 0, 1) := by decide +kernel
theorem dX2_init_6 : decode cX2_init 6 = .ok (.iload_n 1, 1) := by decide +kernel
theorem dX2_init_7 : decode cX2_init 7 = .ok (.invokestatic 7, 3) := by decide +kernel
theorem dX2_init_10 : decode cX2_init 10 = .ok (.newarray .int, 2) := by decide +kernel
theorem dX2_init_12 : decode cX2_init 12 = .ok (.putfield 13, 3) := by decide +kernel
theorem dX2_init_15 : decode cX2_init 15 = .ok (.return_, 1) := by decide +kernel
theorem dX2_at_0 : decode cX2_at 0 = .ok (.iload_n 1, 1) := by decide +kernel
theorem dX2_at_1 : decode cX2_at 1 = .ok (.ifCond .lt 21, 3) := by decide +kernel
theorem dX2_at_4 : decode cX2_at 4 = .ok (.iload_n 1, 1) := by decide +kernel
theorem dX2_at_5 : decode cX2_at 5 = .ok (.aload_n 0, 1) := by decide +kernel
theorem dX2_at_6 : decode cX2_at 6 = .ok (.getfield 13, 3) := by decide +kernel
theorem dX2_at_9 : decode cX2_at 9 = .ok (.arraylength, 1) := by decide +kernel
theorem dX2_at_10 : decode cX2_at 10 = .ok (.if_icmp .ge 12, 3) := by decide +kernel
theorem dX2_at_13 : decode cX2_at 13 = .ok (.aload_n 0, 1) := by decide +kernel
theorem dX2_at_14 : decode cX2_at 14 = .ok (.getfield 13, 3) := by decide +kernel
theorem dX2_at_17 : decode cX2_at 17 = .ok (.iload_n 1, 1) := by decide +kernel
theorem dX2_at_18 : decode cX2_at 18 = .ok (.iaload, 1) := by decide +kernel
theorem dX2_at_19 : decode cX2_at 19 = .ok (.goto 4, 3) := by decide +kernel
theorem dX2_at_22 : decode cX2_at 22 = .ok (.iconst 0, 1) := by decide +kernel
theorem dX2_at_23 : decode cX2_at 23 = .ok (.ireturn, 1) := by decide +kernel
theorem dX2_set_0 : decode cX2_set 0 = .ok (.iload_n 1, 1) := by decide +kernel
theorem dX2_set_1 : decode cX2_set 1 = .ok (.ifCond .lt 19, 3) := by decide +kernel
theorem dX2_set_4 : decode cX2_set 4 = .ok (.iload_n 1, 1) := by decide +kernel
theorem dX2_set_5 : decode cX2_set 5 = .ok (.aload_n 0, 1) := by decide +kernel
theorem dX2_set_6 : decode cX2_set 6 = .ok (.getfield 13, 3) := by decide +kernel
theorem dX2_set_9 : decode cX2_set 9 = .ok (.arraylength, 1) := by decide +kernel
theorem dX2_set_10 : decode cX2_set 10 = .ok (.if_icmp .ge 10, 3) := by decide +kernel
theorem dX2_set_13 : decode cX2_set 13 = .ok (.aload_n 0, 1) := by decide +kernel
theorem dX2_set_14 : decode cX2_set 14 = .ok (.getfield 13, 3) := by decide +kernel
theorem dX2_set_17 : decode cX2_set 17 = .ok (.iload_n 1, 1) := by decide +kernel
theorem dX2_set_18 : decode cX2_set 18 = .ok (.iload_n 2, 1) := by decide +kernel
theorem dX2_set_19 : decode cX2_set 19 = .ok (.iastore, 1) := by decide +kernel
theorem dX2_set_20 : decode cX2_set 20 = .ok (.return_, 1) := by decide +kernel
theorem dX2_add_0 : decode cX2_add 0 = .ok (.iload_n 1, 1) := by decide +kernel
theorem dX2_add_1 : decode cX2_add 1 = .ok (.ifCond .lt 22, 3) := by decide +kernel
theorem dX2_add_4 : decode cX2_add 4 = .ok (.iload_n 1, 1) := by decide +kernel
theorem dX2_add_5 : decode cX2_add 5 = .ok (.aload_n 0, 1) := by decide +kernel
theorem dX2_add_6 : decode cX2_add 6 = .ok (.getfield 13, 3) := by decide +kernel
theorem dX2_add_9 : decode cX2_add 9 = .ok (.arraylength, 1) := by decide +kernel
theorem dX2_add_10 : decode cX2_add 10 = .ok (.if_icmp .ge 13, 3) := by decide +kernel
theorem dX2_add_13 : decode cX2_add 13 = .ok (.aload_n 0, 1) := by decide +kernel
theorem dX2_add_14 : decode cX2_add 14 = .ok (.getfield 13, 3) := by decide +kernel
theorem dX2_add_17 : decode cX2_add 17 = .ok (.iload_n 1, 1) := by decide +kernel
theorem dX2_add_18 : decode cX2_add 18 = .ok (.dup2, 1) := by decide +kernel
theorem dX2_add_19 : decode cX2_add 19 = .ok (.iaload, 1) := by decide +kernel
theorem dX2_add_20 : decode cX2_add 20 = .ok (.iload_n 2, 1) := by decide +kernel
theorem dX2_add_21 : decode cX2_add 21 = .ok (.iadd, 1) := by decide +kernel
theorem dX2_add_22 : decode cX2_add 22 = .ok (.iastore, 1) := by decide +kernel
theorem dX2_add_23 : decode cX2_add 23 = .ok (.return_, 1) := by decide +kernel
theorem dX2_fill_0 : decode cX2_fill 0 = .ok (.iconst 0, 1) := by decide +kernel
theorem dX2_fill_1 : decode cX2_fill 1 = .ok (.istore_n 2, 1) := by decide +kernel
theorem dX2_fill_2 : decode cX2_fill 2 = .ok (.iload_n 2, 1) := by decide +kernel
theorem dX2_fill_3 : decode cX2_fill 3 = .ok (.aload_n 0, 1) := by decide +kernel
theorem dX2_fill_4 : decode cX2_fill 4 = .ok (.getfield 13, 3) := by decide +kernel
theorem dX2_fill_7 : decode cX2_fill 7 = .ok (.arraylength, 1) := by decide +kernel
theorem dX2_fill_8 : decode cX2_fill 8 = .ok (.if_icmp .ge 16, 3) := by decide +kernel
theorem dX2_fill_11 : decode cX2_fill 11 = .ok (.aload_n 0, 1) := by decide +kernel
theorem dX2_fill_12 : decode cX2_fill 12 = .ok (.getfield 13, 3) := by decide +kernel
theorem dX2_fill_15 : decode cX2_fill 15 = .ok (.iload_n 2, 1) := by decide +kernel
theorem dX2_fill_16 : decode cX2_fill 16 = .ok (.iload_n 1, 1) := by decide +kernel
theorem dX2_fill_17 : decode cX2_fill 17 = .ok (.iastore, 1) := by decide +kernel
theorem dX2_fill_18 : decode cX2_fill 18 = .ok (.iinc 2 1, 3) := by decide +kernel
theorem dX2_fill_21 : decode cX2_fill 21 = .ok (.goto (-19), 3) := by decide +kernel
theorem dX2_fill_24 : decode cX2_fill 24 = .ok (.return_, 1) := by decide +kernel
theorem dX2_sum_0 : decode cX2_sum 0 = .ok (.iconst 0, 1) := by decide +kernel
theorem dX2_sum_1 : decode cX2_sum 1 = .ok (.istore_n 1, 1) := by decide +kernel
theorem dX2_sum_2 : decode cX2_sum 2 = .ok (.aload_n 0, 1) := by decide +kernel
theorem dX2_sum_3 : decode cX2_sum 3 = .ok (.getfield 13, 3) := by decide +kernel
theorem dX2_sum_6 : decode cX2_sum 6 = .ok (.astore_n 2, 1) := by decide +kernel
theorem dX2_sum_7 : decode cX2_sum 7 = .ok (.aload_n 2, 1) := by decide +kernel
theorem dX2_sum_8 : decode cX2_sum 8 = .ok (.arraylength, 1) := by decide +kernel
theorem dX2_sum_9 : decode cX2_sum 9 = .ok (.istore_n 3, 1) := by decide +kernel
theorem dX2_sum_10 : decode cX2_sum 10 = .ok (.iconst 0, 1) := by decide +kernel
theorem dX2_sum_11 : decode cX2_sum 11 = .ok (.istore 4, 2) := by decide +kernel
theorem dX2_sum_13 : decode cX2_sum 13 = .ok (.iload 4, 2) := by decide +kernel
theorem dX2_sum_15 : decode cX2_sum 15 = .ok (.iload_n 3, 1) := by decide +kernel
theorem dX2_sum_16 : decode cX2_sum 16 = .ok (.if_icmp .ge 20, 3) := by decide +kernel
theorem dX2_sum_19 : decode cX2_sum 19 = .ok (.aload_n 2, 1) := by decide +kernel
theorem dX2_sum_20 : decode cX2_sum 20 = .ok (.iload 4, 2) := by decide +kernel
theorem dX2_sum_22 : decode cX2_sum 22 = .ok (.iaload, 1) := by decide +kernel
theorem dX2_sum_23 : decode cX2_sum 23 = .ok (.istore 5, 2) := by decide +kernel
theorem dX2_sum_25 : decode cX2_sum 25 = .ok (.iload_n 1, 1) := by decide +kernel
theorem dX2_sum_26 : decode cX2_sum 26 = .ok (.iload 5, 2) := by decide +kernel
theorem dX2_sum_28 : decode cX2_sum 28 = .ok (.iadd, 1) := by decide +kernel
theorem dX2_sum_29 : decode cX2_sum 29 = .ok (.istore_n 1, 1) := by decide +kernel
theorem dX2_sum_30 : decode cX2_sum 30 = .ok (.iinc 4 1, 3) := by decide +kernel
theorem dX2_sum_33 : decode cX2_sum 33 = .ok (.goto (-20), 3) := by decide +kernel
theorem dX2_sum_36 : decode cX2_sum 36 = .ok (.iload_n 1, 1) := by decide +kernel
theorem dX2_sum_37 : decode cX2_sum 37 = .ok (.ireturn, 1) := by decide +kernel
set_option maxRecDepth 20000 in
theorem ggX2_copyFrom_X2_at : GoodIn wsX2_copyFrom wsX2_at := goodIn_r _ [6, 1, 7] (by decide +kernel) (by decide +kernel)
set_option maxRecDepth 20000 in
theorem gX2_copyFrom_X2_at : GoodIn wsX2_copyFrom (wsV RX2 19 RX2 yX2_at wsX2_at) := goodIn_app (goodIn_of _ (by decide +kernel)) ggX2_copyFrom_X2_at
theorem dX2_copyFrom_0 : decode cX2_copyFrom 0 = .ok (.iconst 0, 1) := by decide +kernel
theorem dX2_copyFrom_1 : decode cX2_copyFrom 1 = .ok (.istore_n 2, 1) := by decide +kernel
theorem dX2_copyFrom_2 : decode cX2_copyFrom 2 = .ok (.iload_n 2, 1) := by decide +kernel
theorem dX2_copyFrom_3 : decode cX2_copyFrom 3 = .ok (.aload_n 0, 1) := by decide +kernel
theorem dX2_copyFrom_4 : decode cX2_copyFrom 4 = .ok (.getfield 13, 3) := by decide +kernel
theorem dX2_copyFrom_7 : decode cX2_copyFrom 7 = .ok (.arraylength, 1) := by decide +kernel
theorem dX2_copyFrom_8 : decode cX2_copyFrom 8 = .ok (.if_icmp .ge 20, 3) := by decide +kernel
theorem dX2_copyFrom_11 : decode cX2_copyFrom 11 = .ok (.aload_n 0, 1) := by decide +kernel
theorem dX2_copyFrom_12 : decode cX2_copyFrom 12 = .ok (.getfield 13, 3) := by decide +kernel
theorem dX2_copyFrom_15 : decode cX2_copyFrom 15 = .ok (.iload_n 2, 1) := by decide +kernel
theorem dX2_copyFrom_16 : decode cX2_copyFrom 16 = .ok (.aload_n 1, 1) := by decide +kernel
theorem dX2_copyFrom_17 : decode cX2_copyFrom 17 = .ok (.iload_n 2, 1) := by decide +kernel
theorem dX2_copyFrom_18 : decode cX2_copyFrom 18 = .ok (.invokevirtual 19, 3) := by decide +kernel
theorem dX2_copyFrom_21 : decode cX2_copyFrom 21 = .ok (.iastore, 1) := by decide +kernel
theorem dX2_copyFrom_22 : decode cX2_copyFrom 22 = .ok (.iinc 2 1, 3) := by decide +kernel
theorem dX2_copyFrom_25 : decode cX2_copyFrom 25 = .ok (.goto (-23), 3) := by decide +kernel
theorem dX2_copyFrom_28 : decode cX2_copyFrom 28 = .ok (.return_, 1) := by decide +kernel
set_option maxRecDepth 20000 in
theorem ggX3_init_X2_init : GoodIn wsX3_init wsX2_init := goodIn_r _ [11, 12, 2, 3, 13, 14, 15, 16, 17, 18, 19] (by decide +kernel) (by decide +kernel)
set_option maxRecDepth 20000 in
theorem gX3_init_X2_init : GoodIn wsX3_init (wsX2_init) := ggX3_init_X2_init
theorem dX3_init_0 : decode cX3_init 0 = .ok (.aload_n 0, 1) := by decide +kernel
theorem dX3_init_1 : decode cX3_init 1 = .ok (.invokespecial 3, 3) := by decide +kernel
theorem dX3_init_4 : decode cX3_init 4 = .ok (.aload_n 0, 1) := by decide +kernel
theorem dX3_init_5 : decode cX3_init 5 = .ok (.new 9, 3) := by decide +kernel
theorem dX3_init_8 : decode cX3_init 8 = .ok (.dup, 1) := by decide +kernel
theorem dX3_init_9 : decode cX3_init 9 = .ok (.bipush 16, 2) := by decide +kernel
theorem dX3_init_11 : decode cX3_init 11 = .ok (.invokespecial 11, 3) := by decide +kernel
theorem dX3_init_14 : decode cX3_init 14 = .ok (.putfield 14, 3) := by decide +kernel
theorem dX3_init_17 : decode cX3_init 17 = .ok (.aload_n 0, 1) := by decide +kernel
theorem dX3_init_18 : decode cX3_init 18 = .ok (.new 9, 3) := by decide +kernel
theorem dX3_init_21 : decode cX3_init 21 = .ok (.dup, 1) := by decide +kernel
theorem dX3_init_22 : decode cX3_init 22 = .ok (.bipush 16, 2) := by decide +kernel
theorem dX3_init_24 : decode cX3_init 24 = .ok (.invokespecial 11, 3) := by decide +kernel
theorem dX3_init_27 : decode cX3_init 27 = .ok (.putfield 20, 3) := by decide +kernel
theorem dX3_init_30 : decode cX3_init 30 = .ok (.return_, 1) := by decide +kernel
set_option maxRecDepth 20000 in
theorem ggX3_clear_X2_fill : GoodIn wsX3_clear wsX2_fill := goodIn_r _ [7, 8, 11] (by decide +kernel) (by decide +kernel)
set_option maxRecDepth 20000 in
theorem gX3_clear_X2_fill : GoodIn wsX3_clear (wsV RX3 23 RX2 yX2_fill wsX2_fill) := goodIn_app (goodIn_of _ (by decide +kernel)) ggX3_clear_X2_fill
theorem dX3_clear_0 : decode cX3_clear 0 = .ok (.aload_n 0, 1) := by decide +kernel
theorem dX3_clear_1 : decode cX3_clear 1 = .ok (.getfield 14, 3) := by decide +kernel
theorem dX3_clear_4 : decode cX3_clear 4 = .ok (.iconst 0, 1) := by decide +kernel
theorem dX3_clear_5 : decode cX3_clear 5 = .ok (.invokevirtual 23, 3) := by decide +kernel
theorem dX3_clear_8 : decode cX3_clear 8 = .ok (.aload_n 0, 1) := by decide +kernel
theorem dX3_clear_9 : decode cX3_clear 9 = .ok (.getfield 20, 3) := by decide +kernel
theorem dX3_clear_12 : decode cX3_clear 12 = .ok (.iconst (-1), 1) := by decide +kernel
theorem dX3_clear_13 : decode cX3_clear 13 = .ok (.invokevirtual 23, 3) := by decide +kernel
theorem dX3_clear_16 : decode cX3_clear 16 = .ok (.return_, 1) := by decide +kernel
set_option maxRecDepth 20000 in
theorem ggX3_welcome_X2_at : GoodIn wsX3_welcome wsX2_at := goodIn_r _ [10, 11, 18] (by decide +kernel) (by decide +kernel)
set_option maxRecDepth 20000 in
theorem gX3_welcome_X2_at : GoodIn wsX3_welcome (wsV RX3 26 RX2 yX2_at wsX2_at) := goodIn_app (goodIn_of _ (by decide +kernel)) ggX3_welcome_X2_at
set_option maxRecDepth 20000 in
theorem ggX3_welcome_X2_set : GoodIn wsX3_welcome wsX2_set := goodIn_r _ [15, 11, 18] (by decide +kernel) (by decide +kernel)
set_option maxRecDepth 20000 in
theorem gX3_welcome_X2_set : GoodIn wsX3_welcome (wsV RX3 36 RX2 yX2_set wsX2_set) := goodIn_app (goodIn_of _ (by decide +kernel)) ggX3_welcome_X2_set
theorem dX3_welcome_0 : decode cX3_welcome 0 = .ok (.aload_n 0, 1) := by decide +kernel
theorem dX3_welcome_1 : decode cX3_welcome 1 = .ok (.getfield 14, 3) := by decide +kernel
theorem dX3_welcome_4 : decode cX3_welcome 4 = .ok (.iload_n 1, 1) := by decide +kernel
theorem dX3_welcome_5 : decode cX3_welcome 5 = .ok (.bipush 99, 2) := by decide +kernel
theorem dX3_welcome_7 : decode cX3_welcome 7 = .ok (.aload_n 0, 1) := by decide +kernel
theorem dX3_welcome_8 : decode cX3_welcome 8 = .ok (.getfield 14, 3) := by decide +kernel
theorem dX3_welcome_11 : decode cX3_welcome 11 = .ok (.iload_n 1, 1) := by decide +kernel
theorem dX3_welcome_12 : decode cX3_welcome 12 = .ok (.invokevirtual 26, 3) := by decide +kernel
theorem dX3_welcome_15 : decode cX3_welcome 15 = .ok (.iload_n 2, 1) := by decide +kernel
theorem dX3_welcome_16 : decode cX3_welcome 16 = .ok (.iadd, 1) := by decide +kernel
theorem dX3_welcome_17 : decode cX3_welcome 17 = .ok (.invokestatic 30, 3) := by decide +kernel
theorem dX3_welcome_20 : decode cX3_welcome 20 = .ok (.invokevirtual 36, 3) := by decide +kernel
theorem dX3_welcome_23 : decode cX3_welcome 23 = .ok (.return_, 1) := by decide +kernel
set_option maxRecDepth 20000 in
theorem ggX3_allSpares_X2_at : GoodIn wsX3_allSpares wsX2_at := goodIn_r _ [10, 11, 14] (by decide +kernel) (by decide +kernel)
set_option maxRecDepth 20000 in
theorem gX3_allSpares_X2_at : GoodIn wsX3_allSpares (wsV RX3 26 RX2 yX2_at wsX2_at) := goodIn_app (goodIn_of _ (by decide +kernel)) ggX3_allSpares_X2_at
theorem dX3_allSpares_0 : decode cX3_allSpares 0 = .ok (.iconst 0, 1) := by decide +kernel
theorem dX3_allSpares_1 : decode cX3_allSpares 1 = .ok (.istore_n 1, 1) := by decide +kernel
theorem dX3_allSpares_2 : decode cX3_allSpares 2 = .ok (.iconst 0, 1) := by decide +kernel
theorem dX3_allSpares_3 : decode cX3_allSpares 3 = .ok (.istore_n 2, 1) := by decide +kernel
theorem dX3_allSpares_4 : decode cX3_allSpares 4 = .ok (.iload_n 2, 1) := by decide +kernel
theorem dX3_allSpares_5 : decode cX3_allSpares 5 = .ok (.bipush 16, 2) := by decide +kernel
theorem dX3_allSpares_7 : decode cX3_allSpares 7 = .ok (.if_icmp .ge 24, 3) := by decide +kernel
theorem dX3_allSpares_10 : decode cX3_allSpares 10 = .ok (.iload_n 1, 1) := by decide +kernel
theorem dX3_allSpares_11 : decode cX3_allSpares 11 = .ok (.iconst 0, 1) := by decide +kernel
theorem dX3_allSpares_12 : decode cX3_allSpares 12 = .ok (.aload_n 0, 1) := by decide +kernel
theorem dX3_allSpares_13 : decode cX3_allSpares 13 = .ok (.getfield 20, 3) := by decide +kernel
theorem dX3_allSpares_16 : decode cX3_allSpares 16 = .ok (.iload_n 2, 1) := by decide +kernel
theorem dX3_allSpares_17 : decode cX3_allSpares 17 = .ok (.invokevirtual 26, 3) := by decide +kernel
theorem dX3_allSpares_20 : decode cX3_allSpares 20 = .ok (.invokestatic 40, 3) := by decide +kernel
theorem dX3_allSpares_23 : decode cX3_allSpares 23 = .ok (.iadd, 1) := by decide +kernel
theorem dX3_allSpares_24 : decode cX3_allSpares 24 = .ok (.istore_n 1, 1) := by decide +kernel
theorem dX3_allSpares_25 : decode cX3_allSpares 25 = .ok (.iinc 2 1, 3) := by decide +kernel
theorem dX3_allSpares_28 : decode cX3_allSpares 28 = .ok (.goto (-24), 3) := by decide +kernel
theorem dX3_allSpares_31 : decode cX3_allSpares 31 = .ok (.iload_n 1, 1) := by decide +kernel
theorem dX3_allSpares_32 : decode cX3_allSpares 32 = .ok (.ireturn, 1) := by decide +kernel
set_option maxRecDepth 20000 in
theorem ggX3_copyFrom_X2_copyFrom : GoodIn wsX3_copyFrom wsX2_copyFrom := goodIn_r _ [7, 8, 9, 10, 11, 6, 12, 15] (by decide +kernel) (by decide +kernel)
set_option maxRecDepth 20000 in
theorem gX3_copyFrom_X2_copyFrom : GoodIn wsX3_copyFrom (wsV RX3 43 RX2 yX2_copyFrom wsX2_copyFrom) := goodIn_app (goodIn_of _ (by decide +kernel)) ggX3_copyFrom_X2_copyFrom
theorem dX3_copyFrom_0 : decode cX3_copyFrom 0 = .ok (.aload_n 0, 1) := by decide +kernel
theorem dX3_copyFrom_1 : decode cX3_copyFrom 1 = .ok (.getfield 14, 3) := by decide +kernel
theorem dX3_copyFrom_4 : decode cX3_copyFrom 4 = .ok (.aload_n 1, 1) := by decide +kernel
theorem dX3_copyFrom_5 : decode cX3_copyFrom 5 = .ok (.getfield 14, 3) := by decide +kernel
theorem dX3_copyFrom_8 : decode cX3_copyFrom 8 = .ok (.invokevirtual 43, 3) := by decide +kernel
theorem dX3_copyFrom_11 : decode cX3_copyFrom 11 = .ok (.aload_n 0, 1) := by decide +kernel
theorem dX3_copyFrom_12 : decode cX3_copyFrom 12 = .ok (.getfield 20, 3) := by decide +kernel
theorem dX3_copyFrom_15 : decode cX3_copyFrom 15 = .ok (.aload_n 1, 1) := by decide +kernel
theorem dX3_copyFrom_16 : decode cX3_copyFrom 16 = .ok (.getfield 20, 3) := by decide +kernel
theorem dX3_copyFrom_19 : decode cX3_copyFrom 19 = .ok (.invokevirtual 43, 3) := by decide +kernel
theorem dX3_copyFrom_22 : decode cX3_copyFrom 22 = .ok (.return_, 1) := by decide +kernel
set_option maxRecDepth 20000 in
theorem ggX4_init_X2_init : GoodIn wsX4_init wsX2_init := goodIn_r _ [16, 17, 2, 3, 18, 19, 20, 21, 22, 23, 24] (by decide +kernel) (by decide +kernel)
set_option maxRecDepth 20000 in
theorem gX4_init_X2_init : GoodIn wsX4_init (wsX2_init) := ggX4_init_X2_init
theorem dX4_init_0 : decode cX4_init 0 = .ok (.aload_n 0, 1) := by decide +kernel
theorem dX4_init_1 : decode cX4_init 1 = .ok (.invokespecial 3, 3) := by decide +kernel
theorem dX4_init_4 : decode cX4_init 4 = .ok (.aload_n 0, 1) := by decide +kernel
theorem dX4_init_5 : decode cX4_init 5 = .ok (.new 9, 3) := by decide +kernel
theorem dX4_init_8 : decode cX4_init 8 = .ok (.dup, 1) := by decide +kernel
theorem dX4_init_9 : decode cX4_init 9 = .ok (.bipush 15, 2) := by decide +kernel
theorem dX4_init_11 : decode cX4_init 11 = .ok (.invokespecial 11, 3) := by decide +kernel
theorem dX4_init_14 : decode cX4_init 14 = .ok (.putfield 14, 3) := by decide +kernel
theorem dX4_init_17 : decode cX4_init 17 = .ok (.aload_n 0, 1) := by decide +kernel
theorem dX4_init_18 : decode cX4_init 18 = .ok (.new 9, 3) := by decide +kernel
theorem dX4_init_21 : decode cX4_init 21 = .ok (.dup, 1) := by decide +kernel
theorem dX4_init_22 : decode cX4_init 22 = .ok (.bipush 15, 2) := by decide +kernel
theorem dX4_init_24 : decode cX4_init 24 = .ok (.invokespecial 11, 3) := by decide +kernel
theorem dX4_init_27 : decode cX4_init 27 = .ok (.putfield 20, 3) := by decide +kernel
theorem dX4_init_30 : decode cX4_init 30 = .ok (.aload_n 0, 1) := by decide +kernel
theorem dX4_init_31 : decode cX4_init 31 = .ok (.new 9, 3) := by decide +kernel
theorem dX4_init_34 : decode cX4_init 34 = .ok (.dup, 1) := by decide +kernel
theorem dX4_init_35 : decode cX4_init 35 = .ok (.bipush 16, 2) := by decide +kernel
theorem dX4_init_37 : decode cX4_init 37 = .ok (.invokespecial 11, 3) := by decide +kernel
theorem dX4_init_40 : decode cX4_init 40 = .ok (.putfield 23, 3) := by decide +kernel
theorem dX4_init_43 : decode cX4_init 43 = .ok (.aload_n 0, 1) := by decide +kernel
theorem dX4_init_44 : decode cX4_init 44 = .ok (.new 9, 3) := by decide +kernel
theorem dX4_init_47 : decode cX4_init 47 = .ok (.dup, 1) := by decide +kernel
theorem dX4_init_48 : decode cX4_init 48 = .ok (.bipush 15, 2) := by decide +kernel
theorem dX4_init_50 : decode cX4_init 50 = .ok (.invokespecial 11, 3) := by decide +kernel
theorem dX4_init_53 : decode cX4_init 53 = .ok (.putfield 26, 3) := by decide +kernel
theorem dX4_init_56 : decode cX4_init 56 = .ok (.aload_n 0, 1) := by decide +kernel
theorem dX4_init_57 : decode cX4_init 57 = .ok (.new 9, 3) := by decide +kernel
theorem dX4_init_60 : decode cX4_init 60 = .ok (.dup, 1) := by decide +kernel
theorem dX4_init_61 : decode cX4_init 61 = .ok (.bipush 15, 2) := by decide +kernel
theorem dX4_init_63 : decode cX4_init 63 = .ok (.invokespecial 11, 3) := by decide +kernel
theorem dX4_init_66 : decode cX4_init 66 = .ok (.putfield 29, 3) := by decide +kernel
theorem dX4_init_69 : decode cX4_init 69 = .ok (.aload_n 0, 1) := by decide +kernel
theorem dX4_init_70 : decode cX4_init 70 = .ok (.new 9, 3) := by decide +kernel
theorem dX4_init_73 : decode cX4_init 73 = .ok (.dup, 1) := by decide +kernel
theorem dX4_init_74 : decode cX4_init 74 = .ok (.bipush 15, 2) := by decide +kernel
theorem dX4_init_76 : decode cX4_init 76 = .ok (.invokespecial 11, 3) := by decide +kernel
theorem dX4_init_79 : decode cX4_init 79 = .ok (.putfield 32, 3) := by decide +kernel
theorem dX4_init_82 : decode cX4_init 82 = .ok (.aload_n 0, 1) := by decide +kernel
theorem dX4_init_83 : decode cX4_init 83 = .ok (.new 9, 3) := by decide +kernel
theorem dX4_init_86 : decode cX4_init 86 = .ok (.dup, 1) := by decide +kernel
theorem dX4_init_87 : decode cX4_init 87 = .ok (.bipush 15, 2) := by decide +kernel
theorem dX4_init_89 : decode cX4_init 89 = .ok (.invokespecial 11, 3) := by decide +kernel
theorem dX4_init_92 : decode cX4_init 92 = .ok (.putfield 35, 3) := by decide +kernel
theorem dX4_init_95 : decode cX4_init 95 = .ok (.return_, 1) := by decide +kernel
set_option maxRecDepth 20000 in
theorem ggX4_lay_X2_fill : GoodIn wsX4_lay wsX2_fill := goodIn_r _ [14, 15, 25] (by decide +kernel) (by decide +kernel)
set_option maxRecDepth 20000 in
theorem gX4_lay_X2_fill : GoodIn wsX4_lay (wsV RX4 45 RX2 yX2_fill wsX2_fill) := goodIn_app (goodIn_of _ (by decide +kernel)) ggX4_lay_X2_fill
theorem dX4_lay_0 : decode cX4_lay 0 = .ok (.aload_n 0, 1) := by decide +kernel
theorem dX4_lay_1 : decode cX4_lay 1 = .ok (.iload_n 1, 1) := by decide +kernel
theorem dX4_lay_2 : decode cX4_lay 2 = .ok (.putfield 38, 3) := by decide +kernel
theorem dX4_lay_5 : decode cX4_lay 5 = .ok (.aload_n 0, 1) := by decide +kernel
theorem dX4_lay_6 : decode cX4_lay 6 = .ok (.iconst 1, 1) := by decide +kernel
theorem dX4_lay_7 : decode cX4_lay 7 = .ok (.putfield 42, 3) := by decide +kernel
theorem dX4_lay_10 : decode cX4_lay 10 = .ok (.aload_n 0, 1) := by decide +kernel
theorem dX4_lay_11 : decode cX4_lay 11 = .ok (.getfield 14, 3) := by decide +kernel
theorem dX4_lay_14 : decode cX4_lay 14 = .ok (.iconst 0, 1) := by decide +kernel
theorem dX4_lay_15 : decode cX4_lay 15 = .ok (.invokevirtual 45, 3) := by decide +kernel
theorem dX4_lay_18 : decode cX4_lay 18 = .ok (.aload_n 0, 1) := by decide +kernel
theorem dX4_lay_19 : decode cX4_lay 19 = .ok (.getfield 20, 3) := by decide +kernel
theorem dX4_lay_22 : decode cX4_lay 22 = .ok (.iconst 0, 1) := by decide +kernel
theorem dX4_lay_23 : decode cX4_lay 23 = .ok (.invokevirtual 45, 3) := by decide +kernel
theorem dX4_lay_26 : decode cX4_lay 26 = .ok (.aload_n 0, 1) := by decide +kernel
theorem dX4_lay_27 : decode cX4_lay 27 = .ok (.getfield 23, 3) := by decide +kernel
theorem dX4_lay_30 : decode cX4_lay 30 = .ok (.iconst 0, 1) := by decide +kernel
theorem dX4_lay_31 : decode cX4_lay 31 = .ok (.invokevirtual 45, 3) := by decide +kernel
theorem dX4_lay_34 : decode cX4_lay 34 = .ok (.aload_n 0, 1) := by decide +kernel
theorem dX4_lay_35 : decode cX4_lay 35 = .ok (.getfield 26, 3) := by decide +kernel
theorem dX4_lay_38 : decode cX4_lay 38 = .ok (.bipush 20, 2) := by decide +kernel
theorem dX4_lay_40 : decode cX4_lay 40 = .ok (.invokevirtual 45, 3) := by decide +kernel
theorem dX4_lay_43 : decode cX4_lay 43 = .ok (.aload_n 0, 1) := by decide +kernel
theorem dX4_lay_44 : decode cX4_lay 44 = .ok (.getfield 29, 3) := by decide +kernel
theorem dX4_lay_47 : decode cX4_lay 47 = .ok (.iconst 0, 1) := by decide +kernel
theorem dX4_lay_48 : decode cX4_lay 48 = .ok (.invokevirtual 45, 3) := by decide +kernel
theorem dX4_lay_51 : decode cX4_lay 51 = .ok (.aload_n 0, 1) := by decide +kernel
theorem dX4_lay_52 : decode cX4_lay 52 = .ok (.getfield 32, 3) := by decide +kernel
theorem dX4_lay_55 : decode cX4_lay 55 = .ok (.iconst 0, 1) := by decide +kernel
theorem dX4_lay_56 : decode cX4_lay 56 = .ok (.invokevirtual 45, 3) := by decide +kernel
theorem dX4_lay_59 : decode cX4_lay 59 = .ok (.aload_n 0, 1) := by decide +kernel
theorem dX4_lay_60 : decode cX4_lay 60 = .ok (.getfield 35, 3) := by decide +kernel
theorem dX4_lay_63 : decode cX4_lay 63 = .ok (.iconst 0, 1) := by decide +kernel
theorem dX4_lay_64 : decode cX4_lay 64 = .ok (.invokevirtual 45, 3) := by decide +kernel
theorem dX4_lay_67 : decode cX4_lay 67 = .ok (.return_, 1) := by decide +kernel
theorem dX4_spans_0 : decode cX4_spans 0 = .ok (.aload_n 0, 1) := by decide +kernel
theorem dX4_spans_1 : decode cX4_spans 1 = .ok (.getfield 38, 3) := by decide +kernel
theorem dX4_spans_4 : decode cX4_spans 4 = .ok (.iconst 1, 1) := by decide +kernel
theorem dX4_spans_5 : decode cX4_spans 5 = .ok (.isub, 1) := by decide +kernel
theorem dX4_spans_6 : decode cX4_spans 6 = .ok (.ireturn, 1) := by decide +kernel
set_option maxRecDepth 20000 in
theorem ggX4_canInsulate_X2_at : GoodIn wsX4_canInsulate wsX2_at := goodIn_r _ [7, 8, 18] (by decide +kernel) (by decide +kernel)
set_option maxRecDepth 20000 in
theorem gX4_canInsulate_X2_at : GoodIn wsX4_canInsulate (wsV RX4 48 RX2 yX2_at wsX2_at) := goodIn_app (goodIn_of _ (by decide +kernel)) ggX4_canInsulate_X2_at
theorem dX4_canInsulate_0 : decode cX4_canInsulate 0 = .ok (.iload_n 1, 1) := by decide +kernel
theorem dX4_canInsulate_1 : decode cX4_canInsulate 1 = .ok (.ifCond .le 28, 3) := by decide +kernel
theorem dX4_canInsulate_4 : decode cX4_canInsulate 4 = .ok (.iload_n 1, 1) := by decide +kernel
theorem dX4_canInsulate_5 : decode cX4_canInsulate 5 = .ok (.aload_n 0, 1) := by decide +kernel
theorem dX4_canInsulate_6 : decode cX4_canInsulate 6 = .ok (.getfield 38, 3) := by decide +kernel
theorem dX4_canInsulate_9 : decode cX4_canInsulate 9 = .ok (.iconst 1, 1) := by decide +kernel
theorem dX4_canInsulate_10 : decode cX4_canInsulate 10 = .ok (.isub, 1) := by decide +kernel
theorem dX4_canInsulate_11 : decode cX4_canInsulate 11 = .ok (.if_icmp .ge 18, 3) := by decide +kernel
theorem dX4_canInsulate_14 : decode cX4_canInsulate 14 = .ok (.aload_n 0, 1) := by decide +kernel
theorem dX4_canInsulate_15 : decode cX4_canInsulate 15 = .ok (.getfield 23, 3) := by decide +kernel
theorem dX4_canInsulate_18 : decode cX4_canInsulate 18 = .ok (.iload_n 1, 1) := by decide +kernel
theorem dX4_canInsulate_19 : decode cX4_canInsulate 19 = .ok (.invokevirtual 48, 3) := by decide +kernel
theorem dX4_canInsulate_22 : decode cX4_canInsulate 22 = .ok (.ifCond .ne 7, 3) := by decide +kernel
theorem dX4_canInsulate_25 : decode cX4_canInsulate 25 = .ok (.iconst 1, 1) := by decide +kernel
theorem dX4_canInsulate_26 : decode cX4_canInsulate 26 = .ok (.goto 4, 3) := by decide +kernel
theorem dX4_canInsulate_29 : decode cX4_canInsulate 29 = .ok (.iconst 0, 1) := by decide +kernel
theorem dX4_canInsulate_30 : decode cX4_canInsulate 30 = .ok (.ireturn, 1) := by decide +kernel
set_option maxRecDepth 20000 in
theorem ggX4_insulate_X2_at : GoodIn wsX4_insulate wsX2_at := goodIn_r _ [11, 12, 36] (by decide +kernel) (by decide +kernel)
set_option maxRecDepth 20000 in
theorem gX4_insulate_X2_at : GoodIn wsX4_insulate (wsV RX4 48 RX2 yX2_at wsX2_at) := goodIn_app (goodIn_of _ (by decide +kernel)) ggX4_insulate_X2_at
set_option maxRecDepth 20000 in
theorem ggX4_insulate_X2_set : GoodIn wsX4_insulate wsX2_set := goodIn_r _ [16, 12, 36] (by decide +kernel) (by decide +kernel)
set_option maxRecDepth 20000 in
theorem gX4_insulate_X2_set : GoodIn wsX4_insulate (wsV RX4 52 RX2 yX2_set wsX2_set) := goodIn_app (goodIn_of _ (by decide +kernel)) ggX4_insulate_X2_set
set_option maxRecDepth 20000 in
theorem ggX4_insulate_X4_spans : GoodIn wsX4_insulate wsX4_spans := goodIn_r _ [21, 22, 27, 28, 29, 30, 31, 32, 33, 34, 35] (by decide +kernel) (by decide +kernel)
set_option maxRecDepth 20000 in
theorem gX4_insulate_X4_spans : GoodIn wsX4_insulate (wsV RX4 56 RX4 yX4_spans wsX4_spans) := goodIn_app (goodIn_of _ (by decide +kernel)) ggX4_insulate_X4_spans
set_option maxRecDepth 20000 in
theorem ggX4_insulate_X2_add : GoodIn wsX4_insulate wsX2_add := goodIn_r _ [26, 12, 36] (by decide +kernel) (by decide +kernel)
set_option maxRecDepth 20000 in
theorem gX4_insulate_X2_add : GoodIn wsX4_insulate (wsV RX4 60 RX2 yX2_add wsX2_add) := goodIn_app (goodIn_of _ (by decide +kernel)) ggX4_insulate_X2_add
theorem dX4_insulate_0 : decode cX4_insulate 0 = .ok (.aload_n 0, 1) := by decide +kernel
theorem dX4_insulate_1 : decode cX4_insulate 1 = .ok (.getfield 20, 3) := by decide +kernel
theorem dX4_insulate_4 : decode cX4_insulate 4 = .ok (.iload_n 1, 1) := by decide +kernel
theorem dX4_insulate_5 : decode cX4_insulate 5 = .ok (.invokevirtual 48, 3) := by decide +kernel
theorem dX4_insulate_8 : decode cX4_insulate 8 = .ok (.istore_n 2, 1) := by decide +kernel
theorem dX4_insulate_9 : decode cX4_insulate 9 = .ok (.aload_n 0, 1) := by decide +kernel
theorem dX4_insulate_10 : decode cX4_insulate 10 = .ok (.getfield 42, 3) := by decide +kernel
theorem dX4_insulate_13 : decode cX4_insulate 13 = .ok (.istore_n 3, 1) := by decide +kernel
theorem dX4_insulate_14 : decode cX4_insulate 14 = .ok (.iload_n 3, 1) := by decide +kernel
theorem dX4_insulate_15 : decode cX4_insulate 15 = .ok (.iload_n 2, 1) := by decide +kernel
theorem dX4_insulate_16 : decode cX4_insulate 16 = .ok (.if_icmp .le 63, 3) := by decide +kernel
theorem dX4_insulate_19 : decode cX4_insulate 19 = .ok (.aload_n 0, 1) := by decide +kernel
theorem dX4_insulate_20 : decode cX4_insulate 20 = .ok (.getfield 26, 3) := by decide +kernel
theorem dX4_insulate_23 : decode cX4_insulate 23 = .ok (.iload_n 3, 1) := by decide +kernel
theorem dX4_insulate_24 : decode cX4_insulate 24 = .ok (.aload_n 0, 1) := by decide +kernel
theorem dX4_insulate_25 : decode cX4_insulate 25 = .ok (.getfield 26, 3) := by decide +kernel
theorem dX4_insulate_28 : decode cX4_insulate 28 = .ok (.iload_n 3, 1) := by decide +kernel
theorem dX4_insulate_29 : decode cX4_insulate 29 = .ok (.iconst 1, 1) := by decide +kernel
theorem dX4_insulate_30 : decode cX4_insulate 30 = .ok (.isub, 1) := by decide +kernel
theorem dX4_insulate_31 : decode cX4_insulate 31 = .ok (.invokevirtual 48, 3) := by decide +kernel
theorem dX4_insulate_34 : decode cX4_insulate 34 = .ok (.invokevirtual 52, 3) := by decide +kernel
theorem dX4_insulate_37 : decode cX4_insulate 37 = .ok (.aload_n 0, 1) := by decide +kernel
theorem dX4_insulate_38 : decode cX4_insulate 38 = .ok (.getfield 29, 3) := by decide +kernel
theorem dX4_insulate_41 : decode cX4_insulate 41 = .ok (.iload_n 3, 1) := by decide +kernel
theorem dX4_insulate_42 : decode cX4_insulate 42 = .ok (.aload_n 0, 1) := by decide +kernel
theorem dX4_insulate_43 : decode cX4_insulate 43 = .ok (.getfield 29, 3) := by decide +kernel
theorem dX4_insulate_46 : decode cX4_insulate 46 = .ok (.iload_n 3, 1) := by decide +kernel
theorem dX4_insulate_47 : decode cX4_insulate 47 = .ok (.iconst 1, 1) := by decide +kernel
theorem dX4_insulate_48 : decode cX4_insulate 48 = .ok (.isub, 1) := by decide +kernel
theorem dX4_insulate_49 : decode cX4_insulate 49 = .ok (.invokevirtual 48, 3) := by decide +kernel
theorem dX4_insulate_52 : decode cX4_insulate 52 = .ok (.invokevirtual 52, 3) := by decide +kernel
theorem dX4_insulate_55 : decode cX4_insulate 55 = .ok (.aload_n 0, 1) := by decide +kernel
theorem dX4_insulate_56 : decode cX4_insulate 56 = .ok (.getfield 32, 3) := by decide +kernel
theorem dX4_insulate_59 : decode cX4_insulate 59 = .ok (.iload_n 3, 1) := by decide +kernel
theorem dX4_insulate_60 : decode cX4_insulate 60 = .ok (.aload_n 0, 1) := by decide +kernel
theorem dX4_insulate_61 : decode cX4_insulate 61 = .ok (.getfield 32, 3) := by decide +kernel
theorem dX4_insulate_64 : decode cX4_insulate 64 = .ok (.iload_n 3, 1) := by decide +kernel
theorem dX4_insulate_65 : decode cX4_insulate 65 = .ok (.iconst 1, 1) := by decide +kernel
theorem dX4_insulate_66 : decode cX4_insulate 66 = .ok (.isub, 1) := by decide +kernel
theorem dX4_insulate_67 : decode cX4_insulate 67 = .ok (.invokevirtual 48, 3) := by decide +kernel
theorem dX4_insulate_70 : decode cX4_insulate 70 = .ok (.invokevirtual 52, 3) := by decide +kernel
theorem dX4_insulate_73 : decode cX4_insulate 73 = .ok (.iinc 3 (-1), 3) := by decide +kernel
theorem dX4_insulate_76 : decode cX4_insulate 76 = .ok (.goto (-62), 3) := by decide +kernel
theorem dX4_insulate_79 : decode cX4_insulate 79 = .ok (.aload_n 0, 1) := by decide +kernel
theorem dX4_insulate_80 : decode cX4_insulate 80 = .ok (.getfield 32, 3) := by decide +kernel
theorem dX4_insulate_83 : decode cX4_insulate 83 = .ok (.iload_n 2, 1) := by decide +kernel
theorem dX4_insulate_84 : decode cX4_insulate 84 = .ok (.iconst 1, 1) := by decide +kernel
theorem dX4_insulate_85 : decode cX4_insulate 85 = .ok (.iadd, 1) := by decide +kernel
theorem dX4_insulate_86 : decode cX4_insulate 86 = .ok (.iconst 0, 1) := by decide +kernel
theorem dX4_insulate_87 : decode cX4_insulate 87 = .ok (.invokevirtual 52, 3) := by decide +kernel
theorem dX4_insulate_90 : decode cX4_insulate 90 = .ok (.iload_n 1, 1) := by decide +kernel
theorem dX4_insulate_91 : decode cX4_insulate 91 = .ok (.istore_n 3, 1) := by decide +kernel
theorem dX4_insulate_92 : decode cX4_insulate 92 = .ok (.iload_n 3, 1) := by decide +kernel
theorem dX4_insulate_93 : decode cX4_insulate 93 = .ok (.aload_n 0, 1) := by decide +kernel
theorem dX4_insulate_94 : decode cX4_insulate 94 = .ok (.invokevirtual 56, 3) := by decide +kernel
theorem dX4_insulate_97 : decode cX4_insulate 97 = .ok (.if_icmp .ge 18, 3) := by decide +kernel
theorem dX4_insulate_100 : decode cX4_insulate 100 = .ok (.aload_n 0, 1) := by decide +kernel
theorem dX4_insulate_101 : decode cX4_insulate 101 = .ok (.getfield 20, 3) := by decide +kernel
theorem dX4_insulate_104 : decode cX4_insulate 104 = .ok (.iload_n 3, 1) := by decide +kernel
theorem dX4_insulate_105 : decode cX4_insulate 105 = .ok (.iconst 1, 1) := by decide +kernel
theorem dX4_insulate_106 : decode cX4_insulate 106 = .ok (.invokevirtual 60, 3) := by decide +kernel
theorem dX4_insulate_109 : decode cX4_insulate 109 = .ok (.iinc 3 1, 3) := by decide +kernel
theorem dX4_insulate_112 : decode cX4_insulate 112 = .ok (.goto (-20), 3) := by decide +kernel
theorem dX4_insulate_115 : decode cX4_insulate 115 = .ok (.aload_n 0, 1) := by decide +kernel
theorem dX4_insulate_116 : decode cX4_insulate 116 = .ok (.getfield 23, 3) := by decide +kernel
theorem dX4_insulate_119 : decode cX4_insulate 119 = .ok (.iload_n 1, 1) := by decide +kernel
theorem dX4_insulate_120 : decode cX4_insulate 120 = .ok (.iconst 1, 1) := by decide +kernel
theorem dX4_insulate_121 : decode cX4_insulate 121 = .ok (.invokevirtual 52, 3) := by decide +kernel
theorem dX4_insulate_124 : decode cX4_insulate 124 = .ok (.aload_n 0, 1) := by decide +kernel
theorem dX4_insulate_125 : decode cX4_insulate 125 = .ok (.dup, 1) := by decide +kernel
theorem dX4_insulate_126 : decode cX4_insulate 126 = .ok (.getfield 42, 3) := by decide +kernel
theorem dX4_insulate_129 : decode cX4_insulate 129 = .ok (.iconst 1, 1) := by decide +kernel
theorem dX4_insulate_130 : decode cX4_insulate 130 = .ok (.iadd, 1) := by decide +kernel
theorem dX4_insulate_131 : decode cX4_insulate 131 = .ok (.putfield 42, 3) := by decide +kernel
theorem dX4_insulate_134 : decode cX4_insulate 134 = .ok (.return_, 1) := by decide +kernel
set_option maxRecDepth 20000 in
theorem ggX4_firstSpanOf_X4_spans : GoodIn wsX4_firstSpanOf wsX4_spans := goodIn_r _ [6, 7, 14, 15, 16, 17, 18, 19, 20, 21, 22] (by decide +kernel) (by decide +kernel)
set_option maxRecDepth 20000 in
theorem gX4_firstSpanOf_X4_spans : GoodIn wsX4_firstSpanOf (wsV RX4 56 RX4 yX4_spans wsX4_spans) := goodIn_app (goodIn_of _ (by decide +kernel)) ggX4_firstSpanOf_X4_spans
set_option maxRecDepth 20000 in
theorem ggX4_firstSpanOf_X2_at : GoodIn wsX4_firstSpanOf wsX2_at := goodIn_r _ [12, 13, 23] (by decide +kernel) (by decide +kernel)
set_option maxRecDepth 20000 in
theorem gX4_firstSpanOf_X2_at : GoodIn wsX4_firstSpanOf (wsV RX4 48 RX2 yX2_at wsX2_at) := goodIn_app (goodIn_of _ (by decide +kernel)) ggX4_firstSpanOf_X2_at
theorem dX4_firstSpanOf_0 : decode cX4_firstSpanOf 0 = .ok (.iconst 0, 1) := by decide +kernel
theorem dX4_firstSpanOf_1 : decode cX4_firstSpanOf 1 = .ok (.istore_n 2, 1) := by decide +kernel
theorem dX4_firstSpanOf_2 : decode cX4_firstSpanOf 2 = .ok (.iload_n 2, 1) := by decide +kernel
theorem dX4_firstSpanOf_3 : decode cX4_firstSpanOf 3 = .ok (.aload_n 0, 1) := by decide +kernel
theorem dX4_firstSpanOf_4 : decode cX4_firstSpanOf 4 = .ok (.invokevirtual 56, 3) := by decide +kernel
theorem dX4_firstSpanOf_7 : decode cX4_firstSpanOf 7 = .ok (.if_icmp .ge 21, 3) := by decide +kernel
theorem dX4_firstSpanOf_10 : decode cX4_firstSpanOf 10 = .ok (.aload_n 0, 1) := by decide +kernel
theorem dX4_firstSpanOf_11 : decode cX4_firstSpanOf 11 = .ok (.getfield 20, 3) := by decide +kernel
theorem dX4_firstSpanOf_14 : decode cX4_firstSpanOf 14 = .ok (.iload_n 2, 1) := by decide +kernel
theorem dX4_firstSpanOf_15 : decode cX4_firstSpanOf 15 = .ok (.invokevirtual 48, 3) := by decide +kernel
theorem dX4_firstSpanOf_18 : decode cX4_firstSpanOf 18 = .ok (.iload_n 1, 1) := by decide +kernel
theorem dX4_firstSpanOf_19 : decode cX4_firstSpanOf 19 = .ok (.if_icmp .ge 9, 3) := by decide +kernel
theorem dX4_firstSpanOf_22 : decode cX4_firstSpanOf 22 = .ok (.iinc 2 1, 3) := by decide +kernel
theorem dX4_firstSpanOf_25 : decode cX4_firstSpanOf 25 = .ok (.goto (-23), 3) := by decide +kernel
theorem dX4_firstSpanOf_28 : decode cX4_firstSpanOf 28 = .ok (.iload_n 2, 1) := by decide +kernel
theorem dX4_firstSpanOf_29 : decode cX4_firstSpanOf 29 = .ok (.ireturn, 1) := by decide +kernel
set_option maxRecDepth 20000 in
theorem ggX4_deadSections_X2_at : GoodIn wsX4_deadSections wsX2_at := goodIn_r _ [7, 8, 18] (by decide +kernel) (by decide +kernel)
set_option maxRecDepth 20000 in
theorem gX4_deadSections_X2_at : GoodIn wsX4_deadSections (wsV RX4 48 RX2 yX2_at wsX2_at) := goodIn_app (goodIn_of _ (by decide +kernel)) ggX4_deadSections_X2_at
theorem dX4_deadSections_0 : decode cX4_deadSections 0 = .ok (.iconst 0, 1) := by decide +kernel
theorem dX4_deadSections_1 : decode cX4_deadSections 1 = .ok (.istore_n 1, 1) := by decide +kernel
theorem dX4_deadSections_2 : decode cX4_deadSections 2 = .ok (.iconst 0, 1) := by decide +kernel
theorem dX4_deadSections_3 : decode cX4_deadSections 3 = .ok (.istore_n 2, 1) := by decide +kernel
theorem dX4_deadSections_4 : decode cX4_deadSections 4 = .ok (.iload_n 2, 1) := by decide +kernel
theorem dX4_deadSections_5 : decode cX4_deadSections 5 = .ok (.aload_n 0, 1) := by decide +kernel
theorem dX4_deadSections_6 : decode cX4_deadSections 6 = .ok (.getfield 42, 3) := by decide +kernel
theorem dX4_deadSections_9 : decode cX4_deadSections 9 = .ok (.if_icmp .ge 28, 3) := by decide +kernel
theorem dX4_deadSections_12 : decode cX4_deadSections 12 = .ok (.iload_n 1, 1) := by decide +kernel
theorem dX4_deadSections_13 : decode cX4_deadSections 13 = .ok (.aload_n 0, 1) := by decide +kernel
theorem dX4_deadSections_14 : decode cX4_deadSections 14 = .ok (.getfield 29, 3) := by decide +kernel
theorem dX4_deadSections_17 : decode cX4_deadSections 17 = .ok (.iload_n 2, 1) := by decide +kernel
theorem dX4_deadSections_18 : decode cX4_deadSections 18 = .ok (.invokevirtual 48, 3) := by decide +kernel
theorem dX4_deadSections_21 : decode cX4_deadSections 21 = .ok (.ifCond .le 7, 3) := by decide +kernel
theorem dX4_deadSections_24 : decode cX4_deadSections 24 = .ok (.iconst 1, 1) := by decide +kernel
theorem dX4_deadSections_25 : decode cX4_deadSections 25 = .ok (.goto 4, 3) := by decide +kernel
theorem dX4_deadSections_28 : decode cX4_deadSections 28 = .ok (.iconst 0, 1) := by decide +kernel
theorem dX4_deadSections_29 : decode cX4_deadSections 29 = .ok (.iadd, 1) := by decide +kernel
theorem dX4_deadSections_30 : decode cX4_deadSections 30 = .ok (.istore_n 1, 1) := by decide +kernel
theorem dX4_deadSections_31 : decode cX4_deadSections 31 = .ok (.iinc 2 1, 3) := by decide +kernel
theorem dX4_deadSections_34 : decode cX4_deadSections 34 = .ok (.goto (-30), 3) := by decide +kernel
theorem dX4_deadSections_37 : decode cX4_deadSections 37 = .ok (.iload_n 1, 1) := by decide +kernel
theorem dX4_deadSections_38 : decode cX4_deadSections 38 = .ok (.ireturn, 1) := by decide +kernel
set_option maxRecDepth 20000 in
theorem ggX4_breakOverdrawn_X2_at : GoodIn wsX4_breakOverdrawn wsX2_at := goodIn_r _ [10, 11, 29] (by decide +kernel) (by decide +kernel)
set_option maxRecDepth 20000 in
theorem gX4_breakOverdrawn_X2_at : GoodIn wsX4_breakOverdrawn (wsV RX4 48 RX2 yX2_at wsX2_at) := goodIn_app (goodIn_of _ (by decide +kernel)) ggX4_breakOverdrawn_X2_at
set_option maxRecDepth 20000 in
theorem ggX4_breakOverdrawn_X2_set : GoodIn wsX4_breakOverdrawn wsX2_set := goodIn_r _ [15, 11, 29] (by decide +kernel) (by decide +kernel)
set_option maxRecDepth 20000 in
theorem gX4_breakOverdrawn_X2_set : GoodIn wsX4_breakOverdrawn (wsV RX4 52 RX2 yX2_set wsX2_set) := goodIn_app (goodIn_of _ (by decide +kernel)) ggX4_breakOverdrawn_X2_set
set_option maxRecDepth 20000 in
theorem ggX4_breakOverdrawn_X2_add : GoodIn wsX4_breakOverdrawn wsX2_add := goodIn_r _ [19, 11, 29] (by decide +kernel) (by decide +kernel)
set_option maxRecDepth 20000 in
theorem gX4_breakOverdrawn_X2_add : GoodIn wsX4_breakOverdrawn (wsV RX4 60 RX2 yX2_add wsX2_add) := goodIn_app (goodIn_of _ (by decide +kernel)) ggX4_breakOverdrawn_X2_add
theorem dX4_breakOverdrawn_0 : decode cX4_breakOverdrawn 0 = .ok (.iconst 0, 1) := by decide +kernel
theorem dX4_breakOverdrawn_1 : decode cX4_breakOverdrawn 1 = .ok (.istore_n 1, 1) := by decide +kernel
theorem dX4_breakOverdrawn_2 : decode cX4_breakOverdrawn 2 = .ok (.iload_n 1, 1) := by decide +kernel
theorem dX4_breakOverdrawn_3 : decode cX4_breakOverdrawn 3 = .ok (.aload_n 0, 1) := by decide +kernel
theorem dX4_breakOverdrawn_4 : decode cX4_breakOverdrawn 4 = .ok (.getfield 42, 3) := by decide +kernel
theorem dX4_breakOverdrawn_7 : decode cX4_breakOverdrawn 7 = .ok (.if_icmp .ge 57, 3) := by decide +kernel
theorem dX4_breakOverdrawn_10 : decode cX4_breakOverdrawn 10 = .ok (.aload_n 0, 1) := by decide +kernel
theorem dX4_breakOverdrawn_11 : decode cX4_breakOverdrawn 11 = .ok (.getfield 29, 3) := by decide +kernel
theorem dX4_breakOverdrawn_14 : decode cX4_breakOverdrawn 14 = .ok (.iload_n 1, 1) := by decide +kernel
theorem dX4_breakOverdrawn_15 : decode cX4_breakOverdrawn 15 = .ok (.invokevirtual 48, 3) := by decide +kernel
theorem dX4_breakOverdrawn_18 : decode cX4_breakOverdrawn 18 = .ok (.ifCond .ne 40, 3) := by decide +kernel
theorem dX4_breakOverdrawn_21 : decode cX4_breakOverdrawn 21 = .ok (.aload_n 0, 1) := by decide +kernel
theorem dX4_breakOverdrawn_22 : decode cX4_breakOverdrawn 22 = .ok (.getfield 35, 3) := by decide +kernel
theorem dX4_breakOverdrawn_25 : decode cX4_breakOverdrawn 25 = .ok (.iload_n 1, 1) := by decide +kernel
theorem dX4_breakOverdrawn_26 : decode cX4_breakOverdrawn 26 = .ok (.invokevirtual 48, 3) := by decide +kernel
theorem dX4_breakOverdrawn_29 : decode cX4_breakOverdrawn 29 = .ok (.aload_n 0, 1) := by decide +kernel
theorem dX4_breakOverdrawn_30 : decode cX4_breakOverdrawn 30 = .ok (.getfield 26, 3) := by decide +kernel
theorem dX4_breakOverdrawn_33 : decode cX4_breakOverdrawn 33 = .ok (.iload_n 1, 1) := by decide +kernel
theorem dX4_breakOverdrawn_34 : decode cX4_breakOverdrawn 34 = .ok (.invokevirtual 48, 3) := by decide +kernel
theorem dX4_breakOverdrawn_37 : decode cX4_breakOverdrawn 37 = .ok (.if_icmp .le 21, 3) := by decide +kernel
theorem dX4_breakOverdrawn_40 : decode cX4_breakOverdrawn 40 = .ok (.aload_n 0, 1) := by decide +kernel
theorem dX4_breakOverdrawn_41 : decode cX4_breakOverdrawn 41 = .ok (.getfield 29, 3) := by decide +kernel
theorem dX4_breakOverdrawn_44 : decode cX4_breakOverdrawn 44 = .ok (.iload_n 1, 1) := by decide +kernel
theorem dX4_breakOverdrawn_45 : decode cX4_breakOverdrawn 45 = .ok (.iconst 3, 1) := by decide +kernel
theorem dX4_breakOverdrawn_46 : decode cX4_breakOverdrawn 46 = .ok (.invokevirtual 52, 3) := by decide +kernel
theorem dX4_breakOverdrawn_49 : decode cX4_breakOverdrawn 49 = .ok (.aload_n 0, 1) := by decide +kernel
theorem dX4_breakOverdrawn_50 : decode cX4_breakOverdrawn 50 = .ok (.getfield 32, 3) := by decide +kernel
theorem dX4_breakOverdrawn_53 : decode cX4_breakOverdrawn 53 = .ok (.iload_n 1, 1) := by decide +kernel
theorem dX4_breakOverdrawn_54 : decode cX4_breakOverdrawn 54 = .ok (.iconst 1, 1) := by decide +kernel
theorem dX4_breakOverdrawn_55 : decode cX4_breakOverdrawn 55 = .ok (.invokevirtual 60, 3) := by decide +kernel
theorem dX4_breakOverdrawn_58 : decode cX4_breakOverdrawn 58 = .ok (.iinc 1 1, 3) := by decide +kernel
theorem dX4_breakOverdrawn_61 : decode cX4_breakOverdrawn 61 = .ok (.goto (-59), 3) := by decide +kernel
theorem dX4_breakOverdrawn_64 : decode cX4_breakOverdrawn 64 = .ok (.return_, 1) := by decide +kernel
set_option maxRecDepth 20000 in
theorem ggX4_recover_X2_at : GoodIn wsX4_recover wsX2_at := goodIn_r _ [7, 8, 22] (by decide +kernel) (by decide +kernel)
set_option maxRecDepth 20000 in
theorem gX4_recover_X2_at : GoodIn wsX4_recover (wsV RX4 48 RX2 yX2_at wsX2_at) := goodIn_app (goodIn_of _ (by decide +kernel)) ggX4_recover_X2_at
set_option maxRecDepth 20000 in
theorem ggX4_recover_X2_add : GoodIn wsX4_recover wsX2_add := goodIn_r _ [12, 8, 22] (by decide +kernel) (by decide +kernel)
set_option maxRecDepth 20000 in
theorem gX4_recover_X2_add : GoodIn wsX4_recover (wsV RX4 60 RX2 yX2_add wsX2_add) := goodIn_app (goodIn_of _ (by decide +kernel)) ggX4_recover_X2_add
theorem dX4_recover_0 : decode cX4_recover 0 = .ok (.iconst 0, 1) := by decide +kernel
theorem dX4_recover_1 : decode cX4_recover 1 = .ok (.istore_n 1, 1) := by decide +kernel
theorem dX4_recover_2 : decode cX4_recover 2 = .ok (.iload_n 1, 1) := by decide +kernel
theorem dX4_recover_3 : decode cX4_recover 3 = .ok (.aload_n 0, 1) := by decide +kernel
theorem dX4_recover_4 : decode cX4_recover 4 = .ok (.getfield 42, 3) := by decide +kernel
theorem dX4_recover_7 : decode cX4_recover 7 = .ok (.if_icmp .ge 29, 3) := by decide +kernel
theorem dX4_recover_10 : decode cX4_recover 10 = .ok (.aload_n 0, 1) := by decide +kernel
theorem dX4_recover_11 : decode cX4_recover 11 = .ok (.getfield 29, 3) := by decide +kernel
theorem dX4_recover_14 : decode cX4_recover 14 = .ok (.iload_n 1, 1) := by decide +kernel
theorem dX4_recover_15 : decode cX4_recover 15 = .ok (.invokevirtual 48, 3) := by decide +kernel
theorem dX4_recover_18 : decode cX4_recover 18 = .ok (.ifCond .le 12, 3) := by decide +kernel
theorem dX4_recover_21 : decode cX4_recover 21 = .ok (.aload_n 0, 1) := by decide +kernel
theorem dX4_recover_22 : decode cX4_recover 22 = .ok (.getfield 29, 3) := by decide +kernel
theorem dX4_recover_25 : decode cX4_recover 25 = .ok (.iload_n 1, 1) := by decide +kernel
theorem dX4_recover_26 : decode cX4_recover 26 = .ok (.iconst (-1), 1) := by decide +kernel
theorem dX4_recover_27 : decode cX4_recover 27 = .ok (.invokevirtual 60, 3) := by decide +kernel
theorem dX4_recover_30 : decode cX4_recover 30 = .ok (.iinc 1 1, 3) := by decide +kernel
theorem dX4_recover_33 : decode cX4_recover 33 = .ok (.goto (-31), 3) := by decide +kernel
theorem dX4_recover_36 : decode cX4_recover 36 = .ok (.return_, 1) := by decide +kernel
set_option maxRecDepth 20000 in
theorem ggX4_copyFrom_X2_copyFrom : GoodIn wsX4_copyFrom wsX2_copyFrom := goodIn_r _ [14, 15, 16, 17, 18, 13, 19, 29] (by decide +kernel) (by decide +kernel)
set_option maxRecDepth 20000 in
theorem gX4_copyFrom_X2_copyFrom : GoodIn wsX4_copyFrom (wsV RX4 63 RX2 yX2_copyFrom wsX2_copyFrom) := goodIn_app (goodIn_of _ (by decide +kernel)) ggX4_copyFrom_X2_copyFrom
theorem dX4_copyFrom_0 : decode cX4_copyFrom 0 = .ok (.aload_n 0, 1) := by decide +kernel
theorem dX4_copyFrom_1 : decode cX4_copyFrom 1 = .ok (.aload_n 1, 1) := by decide +kernel
theorem dX4_copyFrom_2 : decode cX4_copyFrom 2 = .ok (.getfield 38, 3) := by decide +kernel
theorem dX4_copyFrom_5 : decode cX4_copyFrom 5 = .ok (.putfield 38, 3) := by decide +kernel
theorem dX4_copyFrom_8 : decode cX4_copyFrom 8 = .ok (.aload_n 0, 1) := by decide +kernel
theorem dX4_copyFrom_9 : decode cX4_copyFrom 9 = .ok (.aload_n 1, 1) := by decide +kernel
theorem dX4_copyFrom_10 : decode cX4_copyFrom 10 = .ok (.getfield 42, 3) := by decide +kernel
theorem dX4_copyFrom_13 : decode cX4_copyFrom 13 = .ok (.putfield 42, 3) := by decide +kernel
theorem dX4_copyFrom_16 : decode cX4_copyFrom 16 = .ok (.aload_n 0, 1) := by decide +kernel
theorem dX4_copyFrom_17 : decode cX4_copyFrom 17 = .ok (.getfield 14, 3) := by decide +kernel
theorem dX4_copyFrom_20 : decode cX4_copyFrom 20 = .ok (.aload_n 1, 1) := by decide +kernel
theorem dX4_copyFrom_21 : decode cX4_copyFrom 21 = .ok (.getfield 14, 3) := by decide +kernel
theorem dX4_copyFrom_24 : decode cX4_copyFrom 24 = .ok (.invokevirtual 63, 3) := by decide +kernel
theorem dX4_copyFrom_27 : decode cX4_copyFrom 27 = .ok (.aload_n 0, 1) := by decide +kernel
theorem dX4_copyFrom_28 : decode cX4_copyFrom 28 = .ok (.getfield 20, 3) := by decide +kernel
theorem dX4_copyFrom_31 : decode cX4_copyFrom 31 = .ok (.aload_n 1, 1) := by decide +kernel
theorem dX4_copyFrom_32 : decode cX4_copyFrom 32 = .ok (.getfield 20, 3) := by decide +kernel
theorem dX4_copyFrom_35 : decode cX4_copyFrom 35 = .ok (.invokevirtual 63, 3) := by decide +kernel
theorem dX4_copyFrom_38 : decode cX4_copyFrom 38 = .ok (.aload_n 0, 1) := by decide +kernel
theorem dX4_copyFrom_39 : decode cX4_copyFrom 39 = .ok (.getfield 23, 3) := by decide +kernel
theorem dX4_copyFrom_42 : decode cX4_copyFrom 42 = .ok (.aload_n 1, 1) := by decide +kernel
theorem dX4_copyFrom_43 : decode cX4_copyFrom 43 = .ok (.getfield 23, 3) := by decide +kernel
theorem dX4_copyFrom_46 : decode cX4_copyFrom 46 = .ok (.invokevirtual 63, 3) := by decide +kernel
theorem dX4_copyFrom_49 : decode cX4_copyFrom 49 = .ok (.aload_n 0, 1) := by decide +kernel
theorem dX4_copyFrom_50 : decode cX4_copyFrom 50 = .ok (.getfield 26, 3) := by decide +kernel
theorem dX4_copyFrom_53 : decode cX4_copyFrom 53 = .ok (.aload_n 1, 1) := by decide +kernel
theorem dX4_copyFrom_54 : decode cX4_copyFrom 54 = .ok (.getfield 26, 3) := by decide +kernel
theorem dX4_copyFrom_57 : decode cX4_copyFrom 57 = .ok (.invokevirtual 63, 3) := by decide +kernel
theorem dX4_copyFrom_60 : decode cX4_copyFrom 60 = .ok (.aload_n 0, 1) := by decide +kernel
theorem dX4_copyFrom_61 : decode cX4_copyFrom 61 = .ok (.getfield 29, 3) := by decide +kernel
theorem dX4_copyFrom_64 : decode cX4_copyFrom 64 = .ok (.aload_n 1, 1) := by decide +kernel
theorem dX4_copyFrom_65 : decode cX4_copyFrom 65 = .ok (.getfield 29, 3) := by decide +kernel
theorem dX4_copyFrom_68 : decode cX4_copyFrom 68 = .ok (.invokevirtual 63, 3) := by decide +kernel
theorem dX4_copyFrom_71 : decode cX4_copyFrom 71 = .ok (.aload_n 0, 1) := by decide +kernel
theorem dX4_copyFrom_72 : decode cX4_copyFrom 72 = .ok (.getfield 32, 3) := by decide +kernel
theorem dX4_copyFrom_75 : decode cX4_copyFrom 75 = .ok (.aload_n 1, 1) := by decide +kernel
theorem dX4_copyFrom_76 : decode cX4_copyFrom 76 = .ok (.getfield 32, 3) := by decide +kernel
theorem dX4_copyFrom_79 : decode cX4_copyFrom 79 = .ok (.invokevirtual 63, 3) := by decide +kernel
theorem dX4_copyFrom_82 : decode cX4_copyFrom 82 = .ok (.aload_n 0, 1) := by decide +kernel
theorem dX4_copyFrom_83 : decode cX4_copyFrom 83 = .ok (.getfield 35, 3) := by decide +kernel
theorem dX4_copyFrom_86 : decode cX4_copyFrom 86 = .ok (.aload_n 1, 1) := by decide +kernel
theorem dX4_copyFrom_87 : decode cX4_copyFrom 87 = .ok (.getfield 35, 3) := by decide +kernel
theorem dX4_copyFrom_90 : decode cX4_copyFrom 90 = .ok (.invokevirtual 63, 3) := by decide +kernel
theorem dX4_copyFrom_93 : decode cX4_copyFrom 93 = .ok (.return_, 1) := by decide +kernel
