set_option maxRecDepth 20000 in
theorem ggX0_init_X2_init : GoodIn wsX0_init wsX2_init := goodIn_r _ [17, 18, 2, 3, 19, 20, 21, 22, 23, 24, 25] (by decide +kernel) (by decide +kernel)
set_option maxRecDepth 20000 in
theorem gX0_init_X2_init : GoodIn wsX0_init (wsX2_init) := ggX0_init_X2_init
theorem dX0_init_0 : decode cX0_init 0 = .ok (.aload_n 0, 1) := by decide +kernel
theorem dX0_init_1 : decode cX0_init 1 = .ok (.invokespecial 3, 3) := by decide +kernel
theorem dX0_init_4 : decode cX0_init 4 = .ok (.aload_n 0, 1) := by decide +kernel
theorem dX0_init_5 : decode cX0_init 5 = .ok (.new 9, 3) := by decide +kernel
theorem dX0_init_8 : decode cX0_init 8 = .ok (.dup, 1) := by decide +kernel
theorem dX0_init_9 : decode cX0_init 9 = .ok (.bipush 6, 2) := by decide +kernel
theorem dX0_init_11 : decode cX0_init 11 = .ok (.invokespecial 11, 3) := by decide +kernel
theorem dX0_init_14 : decode cX0_init 14 = .ok (.putfield 14, 3) := by decide +kernel
theorem dX0_init_17 : decode cX0_init 17 = .ok (.aload_n 0, 1) := by decide +kernel
theorem dX0_init_18 : decode cX0_init 18 = .ok (.new 9, 3) := by decide +kernel
theorem dX0_init_21 : decode cX0_init 21 = .ok (.dup, 1) := by decide +kernel
theorem dX0_init_22 : decode cX0_init 22 = .ok (.bipush 6, 2) := by decide +kernel
theorem dX0_init_24 : decode cX0_init 24 = .ok (.invokespecial 11, 3) := by decide +kernel
theorem dX0_init_27 : decode cX0_init 27 = .ok (.putfield 20, 3) := by decide +kernel
theorem dX0_init_30 : decode cX0_init 30 = .ok (.aload_n 0, 1) := by decide +kernel
theorem dX0_init_31 : decode cX0_init 31 = .ok (.new 9, 3) := by decide +kernel
theorem dX0_init_34 : decode cX0_init 34 = .ok (.dup, 1) := by decide +kernel
theorem dX0_init_35 : decode cX0_init 35 = .ok (.bipush 6, 2) := by decide +kernel
theorem dX0_init_37 : decode cX0_init 37 = .ok (.invokespecial 11, 3) := by decide +kernel
theorem dX0_init_40 : decode cX0_init 40 = .ok (.putfield 23, 3) := by decide +kernel
theorem dX0_init_43 : decode cX0_init 43 = .ok (.aload_n 0, 1) := by decide +kernel
theorem dX0_init_44 : decode cX0_init 44 = .ok (.new 9, 3) := by decide +kernel
theorem dX0_init_47 : decode cX0_init 47 = .ok (.dup, 1) := by decide +kernel
theorem dX0_init_48 : decode cX0_init 48 = .ok (.bipush 6, 2) := by decide +kernel
theorem dX0_init_50 : decode cX0_init 50 = .ok (.invokespecial 11, 3) := by decide +kernel
theorem dX0_init_53 : decode cX0_init 53 = .ok (.putfield 26, 3) := by decide +kernel
theorem dX0_init_56 : decode cX0_init 56 = .ok (.aload_n 0, 1) := by decide +kernel
theorem dX0_init_57 : decode cX0_init 57 = .ok (.new 9, 3) := by decide +kernel
theorem dX0_init_60 : decode cX0_init 60 = .ok (.dup, 1) := by decide +kernel
theorem dX0_init_61 : decode cX0_init 61 = .ok (.bipush 6, 2) := by decide +kernel
theorem dX0_init_63 : decode cX0_init 63 = .ok (.invokespecial 11, 3) := by decide +kernel
theorem dX0_init_66 : decode cX0_init 66 = .ok (.putfield 29, 3) := by decide +kernel
theorem dX0_init_69 : decode cX0_init 69 = .ok (.aload_n 0, 1) := by decide +kernel
theorem dX0_init_70 : decode cX0_init 70 = .ok (.new 9, 3) := by decide +kernel
theorem dX0_init_73 : decode cX0_init 73 = .ok (.dup, 1) := by decide +kernel
theorem dX0_init_74 : decode cX0_init 74 = .ok (.bipush 6, 2) := by decide +kernel
theorem dX0_init_76 : decode cX0_init 76 = .ok (.invokespecial 11, 3) := by decide +kernel
theorem dX0_init_79 : decode cX0_init 79 = .ok (.putfield 32, 3) := by decide +kernel
theorem dX0_init_82 : decode cX0_init 82 = .ok (.aload_n 0, 1) := by decide +kernel
theorem dX0_init_83 : decode cX0_init 83 = .ok (.new 9, 3) := by decide +kernel
theorem dX0_init_86 : decode cX0_init 86 = .ok (.dup, 1) := by decide +kernel
theorem dX0_init_87 : decode cX0_init 87 = .ok (.bipush 6, 2) := by decide +kernel
theorem dX0_init_89 : decode cX0_init 89 = .ok (.invokespecial 11, 3) := by decide +kernel
theorem dX0_init_92 : decode cX0_init 92 = .ok (.putfield 35, 3) := by decide +kernel
theorem dX0_init_95 : decode cX0_init 95 = .ok (.aload_n 0, 1) := by decide +kernel
theorem dX0_init_96 : decode cX0_init 96 = .ok (.new 9, 3) := by decide +kernel
theorem dX0_init_99 : decode cX0_init 99 = .ok (.dup, 1) := by decide +kernel
theorem dX0_init_100 : decode cX0_init 100 = .ok (.bipush 6, 2) := by decide +kernel
theorem dX0_init_102 : decode cX0_init 102 = .ok (.invokespecial 11, 3) := by decide +kernel
theorem dX0_init_105 : decode cX0_init 105 = .ok (.putfield 38, 3) := by decide +kernel
theorem dX0_init_108 : decode cX0_init 108 = .ok (.return_, 1) := by decide +kernel
set_option maxRecDepth 20000 in
theorem ggX0_enter_X2_set : GoodIn wsX0_enter wsX2_set := goodIn_r _ [10, 11, 21] (by decide +kernel) (by decide +kernel)
set_option maxRecDepth 20000 in
theorem gX0_enter_X2_set : GoodIn wsX0_enter (wsV RX0 45 RX2 yX2_set wsX2_set) := goodIn_app (goodIn_of _ (by decide +kernel)) ggX0_enter_X2_set
theorem dX0_enter_0 : decode cX0_enter 0 = .ok (.aload_n 0, 1) := by decide +kernel
theorem dX0_enter_1 : decode cX0_enter 1 = .ok (.getfield 41, 3) := by decide +kernel
theorem dX0_enter_4 : decode cX0_enter 4 = .ok (.istore 4, 2) := by decide +kernel
theorem dX0_enter_6 : decode cX0_enter 6 = .ok (.aload_n 0, 1) := by decide +kernel
theorem dX0_enter_7 : decode cX0_enter 7 = .ok (.getfield 14, 3) := by decide +kernel
theorem dX0_enter_10 : decode cX0_enter 10 = .ok (.iload 4, 2) := by decide +kernel
theorem dX0_enter_12 : decode cX0_enter 12 = .ok (.iload_n 1, 1) := by decide +kernel
theorem dX0_enter_13 : decode cX0_enter 13 = .ok (.invokevirtual 45, 3) := by decide +kernel
theorem dX0_enter_16 : decode cX0_enter 16 = .ok (.aload_n 0, 1) := by decide +kernel
theorem dX0_enter_17 : decode cX0_enter 17 = .ok (.getfield 20, 3) := by decide +kernel
theorem dX0_enter_20 : decode cX0_enter 20 = .ok (.iload 4, 2) := by decide +kernel
theorem dX0_enter_22 : decode cX0_enter 22 = .ok (.iload_n 2, 1) := by decide +kernel
theorem dX0_enter_23 : decode cX0_enter 23 = .ok (.ifCond .eq 7, 3) := by decide +kernel
theorem dX0_enter_26 : decode cX0_enter 26 = .ok (.iconst 1, 1) := by decide +kernel
theorem dX0_enter_27 : decode cX0_enter 27 = .ok (.goto 4, 3) := by decide +kernel
theorem dX0_enter_30 : decode cX0_enter 30 = .ok (.iconst 0, 1) := by decide +kernel
theorem dX0_enter_31 : decode cX0_enter 31 = .ok (.invokevirtual 45, 3) := by decide +kernel
theorem dX0_enter_34 : decode cX0_enter 34 = .ok (.aload_n 0, 1) := by decide +kernel
theorem dX0_enter_35 : decode cX0_enter 35 = .ok (.getfield 26, 3) := by decide +kernel
theorem dX0_enter_38 : decode cX0_enter 38 = .ok (.iload 4, 2) := by decide +kernel
theorem dX0_enter_40 : decode cX0_enter 40 = .ok (.iload_n 3, 1) := by decide +kernel
theorem dX0_enter_41 : decode cX0_enter 41 = .ok (.invokevirtual 45, 3) := by decide +kernel
theorem dX0_enter_44 : decode cX0_enter 44 = .ok (.aload_n 0, 1) := by decide +kernel
theorem dX0_enter_45 : decode cX0_enter 45 = .ok (.getfield 32, 3) := by decide +kernel
theorem dX0_enter_48 : decode cX0_enter 48 = .ok (.iload 4, 2) := by decide +kernel
theorem dX0_enter_50 : decode cX0_enter 50 = .ok (.iconst (-1), 1) := by decide +kernel
theorem dX0_enter_51 : decode cX0_enter 51 = .ok (.invokevirtual 45, 3) := by decide +kernel
theorem dX0_enter_54 : decode cX0_enter 54 = .ok (.aload_n 0, 1) := by decide +kernel
theorem dX0_enter_55 : decode cX0_enter 55 = .ok (.dup, 1) := by decide +kernel
theorem dX0_enter_56 : decode cX0_enter 56 = .ok (.getfield 41, 3) := by decide +kernel
theorem dX0_enter_59 : decode cX0_enter 59 = .ok (.iconst 1, 1) := by decide +kernel
theorem dX0_enter_60 : decode cX0_enter 60 = .ok (.iadd, 1) := by decide +kernel
theorem dX0_enter_61 : decode cX0_enter 61 = .ok (.putfield 41, 3) := by decide +kernel
theorem dX0_enter_64 : decode cX0_enter 64 = .ok (.iload 4, 2) := by decide +kernel
theorem dX0_enter_66 : decode cX0_enter 66 = .ok (.ireturn, 1) := by decide +kernel
set_option maxRecDepth 20000 in
theorem ggX0_runs_X2_at : GoodIn wsX0_runs wsX2_at := goodIn_r _ [6, 7, 17] (by decide +kernel) (by decide +kernel)
set_option maxRecDepth 20000 in
theorem gX0_runs_X2_at : GoodIn wsX0_runs (wsV RX0 49 RX2 yX2_at wsX2_at) := goodIn_app (goodIn_of _ (by decide +kernel)) ggX0_runs_X2_at
theorem dX0_runs_0 : decode cX0_runs 0 = .ok (.aload_n 0, 1) := by decide +kernel
theorem dX0_runs_1 : decode cX0_runs 1 = .ok (.getfield 29, 3) := by decide +kernel
theorem dX0_runs_4 : decode cX0_runs 4 = .ok (.iload_n 1, 1) := by decide +kernel
theorem dX0_runs_5 : decode cX0_runs 5 = .ok (.invokevirtual 49, 3) := by decide +kernel
theorem dX0_runs_8 : decode cX0_runs 8 = .ok (.ifCond .ne 7, 3) := by decide +kernel
theorem dX0_runs_11 : decode cX0_runs 11 = .ok (.iconst 1, 1) := by decide +kernel
theorem dX0_runs_12 : decode cX0_runs 12 = .ok (.goto 4, 3) := by decide +kernel
theorem dX0_runs_15 : decode cX0_runs 15 = .ok (.iconst 0, 1) := by decide +kernel
theorem dX0_runs_16 : decode cX0_runs 16 = .ok (.ireturn, 1) := by decide +kernel
set_option maxRecDepth 20000 in
theorem ggX0_pushes_X2_at : GoodIn wsX0_pushes wsX2_at := goodIn_r _ [6, 7, 17] (by decide +kernel) (by decide +kernel)
set_option maxRecDepth 20000 in
theorem gX0_pushes_X2_at : GoodIn wsX0_pushes (wsV RX0 49 RX2 yX2_at wsX2_at) := goodIn_app (goodIn_of _ (by decide +kernel)) ggX0_pushes_X2_at
theorem dX0_pushes_0 : decode cX0_pushes 0 = .ok (.aload_n 0, 1) := by decide +kernel
theorem dX0_pushes_1 : decode cX0_pushes 1 = .ok (.getfield 32, 3) := by decide +kernel
theorem dX0_pushes_4 : decode cX0_pushes 4 = .ok (.iload_n 1, 1) := by decide +kernel
theorem dX0_pushes_5 : decode cX0_pushes 5 = .ok (.invokevirtual 49, 3) := by decide +kernel
theorem dX0_pushes_8 : decode cX0_pushes 8 = .ok (.iconst (-1), 1) := by decide +kernel
theorem dX0_pushes_9 : decode cX0_pushes 9 = .ok (.if_icmp .eq 7, 3) := by decide +kernel
theorem dX0_pushes_12 : decode cX0_pushes 12 = .ok (.iconst 1, 1) := by decide +kernel
theorem dX0_pushes_13 : decode cX0_pushes 13 = .ok (.goto 4, 3) := by decide +kernel
theorem dX0_pushes_16 : decode cX0_pushes 16 = .ok (.iconst 0, 1) := by decide +kernel
theorem dX0_pushes_17 : decode cX0_pushes 17 = .ok (.ireturn, 1) := by decide +kernel
set_option maxRecDepth 20000 in
theorem ggX0_carsAt_X2_at : GoodIn wsX0_carsAt wsX2_at := goodIn_r _ [7, 8, 18] (by decide +kernel) (by decide +kernel)
set_option maxRecDepth 20000 in
theorem gX0_carsAt_X2_at : GoodIn wsX0_carsAt (wsV RX0 49 RX2 yX2_at wsX2_at) := goodIn_app (goodIn_of _ (by decide +kernel)) ggX0_carsAt_X2_at
theorem dX0_carsAt_0 : decode cX0_carsAt 0 = .ok (.iconst 0, 1) := by decide +kernel
theorem dX0_carsAt_1 : decode cX0_carsAt 1 = .ok (.istore_n 2, 1) := by decide +kernel
theorem dX0_carsAt_2 : decode cX0_carsAt 2 = .ok (.iconst 0, 1) := by decide +kernel
theorem dX0_carsAt_3 : decode cX0_carsAt 3 = .ok (.istore_n 3, 1) := by decide +kernel
theorem dX0_carsAt_4 : decode cX0_carsAt 4 = .ok (.iload_n 3, 1) := by decide +kernel
theorem dX0_carsAt_5 : decode cX0_carsAt 5 = .ok (.aload_n 0, 1) := by decide +kernel
theorem dX0_carsAt_6 : decode cX0_carsAt 6 = .ok (.getfield 41, 3) := by decide +kernel
theorem dX0_carsAt_9 : decode cX0_carsAt 9 = .ok (.if_icmp .ge 29, 3) := by decide +kernel
theorem dX0_carsAt_12 : decode cX0_carsAt 12 = .ok (.iload_n 2, 1) := by decide +kernel
theorem dX0_carsAt_13 : decode cX0_carsAt 13 = .ok (.aload_n 0, 1) := by decide +kernel
theorem dX0_carsAt_14 : decode cX0_carsAt 14 = .ok (.getfield 14, 3) := by decide +kernel
theorem dX0_carsAt_17 : decode cX0_carsAt 17 = .ok (.iload_n 3, 1) := by decide +kernel
theorem dX0_carsAt_18 : decode cX0_carsAt 18 = .ok (.invokevirtual 49, 3) := by decide +kernel
theorem dX0_carsAt_21 : decode cX0_carsAt 21 = .ok (.iload_n 1, 1) := by decide +kernel
theorem dX0_carsAt_22 : decode cX0_carsAt 22 = .ok (.if_icmp .ne 7, 3) := by decide +kernel
theorem dX0_carsAt_25 : decode cX0_carsAt 25 = .ok (.iconst 1, 1) := by decide +kernel
theorem dX0_carsAt_26 : decode cX0_carsAt 26 = .ok (.goto 4, 3) := by decide +kernel
theorem dX0_carsAt_29 : decode cX0_carsAt 29 = .ok (.iconst 0, 1) := by decide +kernel
theorem dX0_carsAt_30 : decode cX0_carsAt 30 = .ok (.iadd, 1) := by decide +kernel
theorem dX0_carsAt_31 : decode cX0_carsAt 31 = .ok (.istore_n 2, 1) := by decide +kernel
theorem dX0_carsAt_32 : decode cX0_carsAt 32 = .ok (.iinc 3 1, 3) := by decide +kernel
theorem dX0_carsAt_35 : decode cX0_carsAt 35 = .ok (.goto (-31), 3) := by decide +kernel
theorem dX0_carsAt_38 : decode cX0_carsAt 38 = .ok (.iload_n 2, 1) := by decide +kernel
theorem dX0_carsAt_39 : decode cX0_carsAt 39 = .ok (.ireturn, 1) := by decide +kernel
set_option maxRecDepth 20000 in
theorem ggX0_hasComeTo_X2_at : GoodIn wsX0_hasComeTo wsX2_at := goodIn_r _ [8, 9, 19] (by decide +kernel) (by decide +kernel)
set_option maxRecDepth 20000 in
theorem gX0_hasComeTo_X2_at : GoodIn wsX0_hasComeTo (wsV RX0 49 RX2 yX2_at wsX2_at) := goodIn_app (goodIn_of _ (by decide +kernel)) ggX0_hasComeTo_X2_at
theorem dX0_hasComeTo_0 : decode cX0_hasComeTo 0 = .ok (.iconst 0, 1) := by decide +kernel
theorem dX0_hasComeTo_1 : decode cX0_hasComeTo 1 = .ok (.istore_n 2, 1) := by decide +kernel
theorem dX0_hasComeTo_2 : decode cX0_hasComeTo 2 = .ok (.iload_n 2, 1) := by decide +kernel
theorem dX0_hasComeTo_3 : decode cX0_hasComeTo 3 = .ok (.aload_n 0, 1) := by decide +kernel
theorem dX0_hasComeTo_4 : decode cX0_hasComeTo 4 = .ok (.getfield 41, 3) := by decide +kernel
theorem dX0_hasComeTo_7 : decode cX0_hasComeTo 7 = .ok (.if_icmp .ge 35, 3) := by decide +kernel
theorem dX0_hasComeTo_10 : decode cX0_hasComeTo 10 = .ok (.aload_n 0, 1) := by decide +kernel
theorem dX0_hasComeTo_11 : decode cX0_hasComeTo 11 = .ok (.getfield 38, 3) := by decide +kernel
theorem dX0_hasComeTo_14 : decode cX0_hasComeTo 14 = .ok (.iload_n 2, 1) := by decide +kernel
theorem dX0_hasComeTo_15 : decode cX0_hasComeTo 15 = .ok (.invokevirtual 49, 3) := by decide +kernel
theorem dX0_hasComeTo_18 : decode cX0_hasComeTo 18 = .ok (.iconst 1, 1) := by decide +kernel
theorem dX0_hasComeTo_19 : decode cX0_hasComeTo 19 = .ok (.if_icmp .ne 17, 3) := by decide +kernel
theorem dX0_hasComeTo_22 : decode cX0_hasComeTo 22 = .ok (.aload_n 0, 1) := by decide +kernel
theorem dX0_hasComeTo_23 : decode cX0_hasComeTo 23 = .ok (.getfield 14, 3) := by decide +kernel
theorem dX0_hasComeTo_26 : decode cX0_hasComeTo 26 = .ok (.iload_n 2, 1) := by decide +kernel
theorem dX0_hasComeTo_27 : decode cX0_hasComeTo 27 = .ok (.invokevirtual 49, 3) := by decide +kernel
theorem dX0_hasComeTo_30 : decode cX0_hasComeTo 30 = .ok (.iload_n 1, 1) := by decide +kernel
theorem dX0_hasComeTo_31 : decode cX0_hasComeTo 31 = .ok (.if_icmp .ne 5, 3) := by decide +kernel
theorem dX0_hasComeTo_34 : decode cX0_hasComeTo 34 = .ok (.iconst 1, 1) := by decide +kernel
theorem dX0_hasComeTo_35 : decode cX0_hasComeTo 35 = .ok (.ireturn, 1) := by decide +kernel
theorem dX0_hasComeTo_36 : decode cX0_hasComeTo 36 = .ok (.iinc 2 1, 3) := by decide +kernel
theorem dX0_hasComeTo_39 : decode cX0_hasComeTo 39 = .ok (.goto (-37), 3) := by decide +kernel
theorem dX0_hasComeTo_42 : decode cX0_hasComeTo 42 = .ok (.iconst 0, 1) := by decide +kernel
theorem dX0_hasComeTo_43 : decode cX0_hasComeTo 43 = .ok (.ireturn, 1) := by decide +kernel
set_option maxRecDepth 20000 in
theorem ggX0_turn_X2_at : GoodIn wsX0_turn wsX2_at := goodIn_r _ [7, 8, 27] (by decide +kernel) (by decide +kernel)
set_option maxRecDepth 20000 in
theorem gX0_turn_X2_at : GoodIn wsX0_turn (wsV RX0 49 RX2 yX2_at wsX2_at) := goodIn_app (goodIn_of _ (by decide +kernel)) ggX0_turn_X2_at
set_option maxRecDepth 20000 in
theorem ggX0_turn_X2_set : GoodIn wsX0_turn wsX2_set := goodIn_r _ [12, 8, 27] (by decide +kernel) (by decide +kernel)
set_option maxRecDepth 20000 in
theorem gX0_turn_X2_set : GoodIn wsX0_turn (wsV RX0 45 RX2 yX2_set wsX2_set) := goodIn_app (goodIn_of _ (by decide +kernel)) ggX0_turn_X2_set
set_option maxRecDepth 20000 in
theorem ggX0_turn_X0_pushes : GoodIn wsX0_turn wsX0_pushes := goodIn_r _ [17, 2, 3, 4, 5, 6, 7, 8, 18, 19, 20, 21, 22, 23, 24, 25, 26, 27] (by decide +kernel) (by decide +kernel)
set_option maxRecDepth 20000 in
theorem gX0_turn_X0_pushes : GoodIn wsX0_turn (wsV RX0 53 RX0 yX0_pushes wsX0_pushes) := goodIn_app (goodIn_of _ (by decide +kernel)) ggX0_turn_X0_pushes
theorem dX0_turn_0 : decode cX0_turn 0 = .ok (.aload_n 0, 1) := by decide +kernel
theorem dX0_turn_1 : decode cX0_turn 1 = .ok (.getfield 20, 3) := by decide +kernel
theorem dX0_turn_4 : decode cX0_turn 4 = .ok (.iload_n 1, 1) := by decide +kernel
theorem dX0_turn_5 : decode cX0_turn 5 = .ok (.iconst 1, 1) := by decide +kernel
theorem dX0_turn_6 : decode cX0_turn 6 = .ok (.aload_n 0, 1) := by decide +kernel
theorem dX0_turn_7 : decode cX0_turn 7 = .ok (.getfield 20, 3) := by decide +kernel
theorem dX0_turn_10 : decode cX0_turn 10 = .ok (.iload_n 1, 1) := by decide +kernel
theorem dX0_turn_11 : decode cX0_turn 11 = .ok (.invokevirtual 49, 3) := by decide +kernel
theorem dX0_turn_14 : decode cX0_turn 14 = .ok (.isub, 1) := by decide +kernel
theorem dX0_turn_15 : decode cX0_turn 15 = .ok (.invokevirtual 45, 3) := by decide +kernel
theorem dX0_turn_18 : decode cX0_turn 18 = .ok (.aload_n 0, 1) := by decide +kernel
theorem dX0_turn_19 : decode cX0_turn 19 = .ok (.iload_n 1, 1) := by decide +kernel
theorem dX0_turn_20 : decode cX0_turn 20 = .ok (.invokevirtual 53, 3) := by decide +kernel
theorem dX0_turn_23 : decode cX0_turn 23 = .ok (.ifCond .eq 26, 3) := by decide +kernel
theorem dX0_turn_26 : decode cX0_turn 26 = .ok (.aload_n 0, 1) := by decide +kernel
theorem dX0_turn_27 : decode cX0_turn 27 = .ok (.getfield 20, 3) := by decide +kernel
theorem dX0_turn_30 : decode cX0_turn 30 = .ok (.aload_n 0, 1) := by decide +kernel
theorem dX0_turn_31 : decode cX0_turn 31 = .ok (.getfield 32, 3) := by decide +kernel
theorem dX0_turn_34 : decode cX0_turn 34 = .ok (.iload_n 1, 1) := by decide +kernel
theorem dX0_turn_35 : decode cX0_turn 35 = .ok (.invokevirtual 49, 3) := by decide +kernel
theorem dX0_turn_38 : decode cX0_turn 38 = .ok (.aload_n 0, 1) := by decide +kernel
theorem dX0_turn_39 : decode cX0_turn 39 = .ok (.getfield 20, 3) := by decide +kernel
theorem dX0_turn_42 : decode cX0_turn 42 = .ok (.iload_n 1, 1) := by decide +kernel
theorem dX0_turn_43 : decode cX0_turn 43 = .ok (.invokevirtual 49, 3) := by decide +kernel
theorem dX0_turn_46 : decode cX0_turn 46 = .ok (.invokevirtual 45, 3) := by decide +kernel
theorem dX0_turn_49 : decode cX0_turn 49 = .ok (.return_, 1) := by decide +kernel
set_option maxRecDepth 20000 in
theorem ggX0_moveTo_X2_set : GoodIn wsX0_moveTo wsX2_set := goodIn_r _ [7, 8, 37] (by decide +kernel) (by decide +kernel)
set_option maxRecDepth 20000 in
theorem gX0_moveTo_X2_set : GoodIn wsX0_moveTo (wsV RX0 45 RX2 yX2_set wsX2_set) := goodIn_app (goodIn_of _ (by decide +kernel)) ggX0_moveTo_X2_set
set_option maxRecDepth 20000 in
theorem ggX0_moveTo_X0_arrive : GoodIn wsX0_moveTo wsX0_arrive := goodIn_r _ [13, 14, 15, 3, 4, 5, 6, 7, 8, 16, 17, 18, 19, 28, 29, 30, 31, 32, 33, 34, 35, 36, 37] (by decide +kernel) (by decide +kernel)
set_option maxRecDepth 20000 in
theorem gX0_moveTo_X0_arrive : GoodIn wsX0_moveTo (wsV RX0 57 RX0 yX0_arrive wsX0_arrive) := goodIn_app (goodIn_of _ (by decide +kernel)) ggX0_moveTo_X0_arrive
set_option maxRecDepth 20000 in
theorem ggX0_moveTo_X0_pushes : GoodIn wsX0_moveTo wsX0_pushes := goodIn_r _ [23, 2, 24, 25, 26, 6, 27, 8, 28, 29, 30, 31, 32, 33, 34, 35, 36, 37] (by decide +kernel) (by decide +kernel)
set_option maxRecDepth 20000 in
theorem gX0_moveTo_X0_pushes : GoodIn wsX0_moveTo (wsV RX0 53 RX0 yX0_pushes wsX0_pushes) := goodIn_app (goodIn_of _ (by decide +kernel)) ggX0_moveTo_X0_pushes
set_option maxRecDepth 20000 in
theorem ggX0_moveTo_X2_at : GoodIn wsX0_moveTo wsX2_at := goodIn_r _ [27, 8, 37] (by decide +kernel) (by decide +kernel)
set_option maxRecDepth 20000 in
theorem gX0_moveTo_X2_at : GoodIn wsX0_moveTo (wsV RX0 49 RX2 yX2_at wsX2_at) := goodIn_app (goodIn_of _ (by decide +kernel)) ggX0_moveTo_X2_at
theorem dX0_moveTo_0 : decode cX0_moveTo 0 = .ok (.aload_n 0, 1) := by decide +kernel
theorem dX0_moveTo_1 : decode cX0_moveTo 1 = .ok (.getfield 38, 3) := by decide +kernel
theorem dX0_moveTo_4 : decode cX0_moveTo 4 = .ok (.iload_n 1, 1) := by decide +kernel
theorem dX0_moveTo_5 : decode cX0_moveTo 5 = .ok (.iconst 1, 1) := by decide +kernel
theorem dX0_moveTo_6 : decode cX0_moveTo 6 = .ok (.invokevirtual 45, 3) := by decide +kernel
theorem dX0_moveTo_9 : decode cX0_moveTo 9 = .ok (.aload_n 0, 1) := by decide +kernel
theorem dX0_moveTo_10 : decode cX0_moveTo 10 = .ok (.iload_n 1, 1) := by decide +kernel
theorem dX0_moveTo_11 : decode cX0_moveTo 11 = .ok (.iload_n 2, 1) := by decide +kernel
theorem dX0_moveTo_12 : decode cX0_moveTo 12 = .ok (.invokevirtual 57, 3) := by decide +kernel
theorem dX0_moveTo_15 : decode cX0_moveTo 15 = .ok (.aload_n 0, 1) := by decide +kernel
theorem dX0_moveTo_16 : decode cX0_moveTo 16 = .ok (.iload_n 1, 1) := by decide +kernel
theorem dX0_moveTo_17 : decode cX0_moveTo 17 = .ok (.invokevirtual 53, 3) := by decide +kernel
theorem dX0_moveTo_20 : decode cX0_moveTo 20 = .ok (.ifCond .eq 16, 3) := by decide +kernel
theorem dX0_moveTo_23 : decode cX0_moveTo 23 = .ok (.aload_n 0, 1) := by decide +kernel
theorem dX0_moveTo_24 : decode cX0_moveTo 24 = .ok (.aload_n 0, 1) := by decide +kernel
theorem dX0_moveTo_25 : decode cX0_moveTo 25 = .ok (.getfield 32, 3) := by decide +kernel
theorem dX0_moveTo_28 : decode cX0_moveTo 28 = .ok (.iload_n 1, 1) := by decide +kernel
theorem dX0_moveTo_29 : decode cX0_moveTo 29 = .ok (.invokevirtual 49, 3) := by decide +kernel
theorem dX0_moveTo_32 : decode cX0_moveTo 32 = .ok (.iload_n 2, 1) := by decide +kernel
theorem dX0_moveTo_33 : decode cX0_moveTo 33 = .ok (.invokevirtual 57, 3) := by decide +kernel
theorem dX0_moveTo_36 : decode cX0_moveTo 36 = .ok (.return_, 1) := by decide +kernel
set_option maxRecDepth 20000 in
theorem ggX0_arrive_X2_set : GoodIn wsX0_arrive wsX2_set := goodIn_r _ [7, 8, 22] (by decide +kernel) (by decide +kernel)
set_option maxRecDepth 20000 in
theorem gX0_arrive_X2_set : GoodIn wsX0_arrive (wsV RX0 45 RX2 yX2_set wsX2_set) := goodIn_app (goodIn_of _ (by decide +kernel)) ggX0_arrive_X2_set
set_option maxRecDepth 20000 in
theorem ggX0_arrive_X2_add : GoodIn wsX0_arrive wsX2_add := goodIn_r _ [12, 8, 22] (by decide +kernel) (by decide +kernel)
set_option maxRecDepth 20000 in
theorem gX0_arrive_X2_add : GoodIn wsX0_arrive (wsV RX0 60 RX2 yX2_add wsX2_add) := goodIn_app (goodIn_of _ (by decide +kernel)) ggX0_arrive_X2_add
theorem dX0_arrive_0 : decode cX0_arrive 0 = .ok (.aload_n 0, 1) := by decide +kernel
theorem dX0_arrive_1 : decode cX0_arrive 1 = .ok (.getfield 14, 3) := by decide +kernel
theorem dX0_arrive_4 : decode cX0_arrive 4 = .ok (.iload_n 1, 1) := by decide +kernel
theorem dX0_arrive_5 : decode cX0_arrive 5 = .ok (.iload_n 2, 1) := by decide +kernel
theorem dX0_arrive_6 : decode cX0_arrive 6 = .ok (.invokevirtual 45, 3) := by decide +kernel
theorem dX0_arrive_9 : decode cX0_arrive 9 = .ok (.aload_n 0, 1) := by decide +kernel
theorem dX0_arrive_10 : decode cX0_arrive 10 = .ok (.getfield 35, 3) := by decide +kernel
theorem dX0_arrive_13 : decode cX0_arrive 13 = .ok (.iload_n 1, 1) := by decide +kernel
theorem dX0_arrive_14 : decode cX0_arrive 14 = .ok (.iconst 1, 1) := by decide +kernel
theorem dX0_arrive_15 : decode cX0_arrive 15 = .ok (.invokevirtual 60, 3) := by decide +kernel
theorem dX0_arrive_18 : decode cX0_arrive 18 = .ok (.return_, 1) := by decide +kernel
set_option maxRecDepth 20000 in
theorem ggX0_isPushed_X2_at : GoodIn wsX0_isPushed wsX2_at := goodIn_r _ [7, 8, 18] (by decide +kernel) (by decide +kernel)
set_option maxRecDepth 20000 in
theorem gX0_isPushed_X2_at : GoodIn wsX0_isPushed (wsV RX0 49 RX2 yX2_at wsX2_at) := goodIn_app (goodIn_of _ (by decide +kernel)) ggX0_isPushed_X2_at
theorem dX0_isPushed_0 : decode cX0_isPushed 0 = .ok (.iconst 0, 1) := by decide +kernel
theorem dX0_isPushed_1 : decode cX0_isPushed 1 = .ok (.istore_n 2, 1) := by decide +kernel
theorem dX0_isPushed_2 : decode cX0_isPushed 2 = .ok (.iload_n 2, 1) := by decide +kernel
theorem dX0_isPushed_3 : decode cX0_isPushed 3 = .ok (.aload_n 0, 1) := by decide +kernel
theorem dX0_isPushed_4 : decode cX0_isPushed 4 = .ok (.getfield 41, 3) := by decide +kernel
theorem dX0_isPushed_7 : decode cX0_isPushed 7 = .ok (.if_icmp .ge 23, 3) := by decide +kernel
theorem dX0_isPushed_10 : decode cX0_isPushed 10 = .ok (.aload_n 0, 1) := by decide +kernel
theorem dX0_isPushed_11 : decode cX0_isPushed 11 = .ok (.getfield 32, 3) := by decide +kernel
theorem dX0_isPushed_14 : decode cX0_isPushed 14 = .ok (.iload_n 2, 1) := by decide +kernel
theorem dX0_isPushed_15 : decode cX0_isPushed 15 = .ok (.invokevirtual 49, 3) := by decide +kernel
theorem dX0_isPushed_18 : decode cX0_isPushed 18 = .ok (.iload_n 1, 1) := by decide +kernel
theorem dX0_isPushed_19 : decode cX0_isPushed 19 = .ok (.if_icmp .ne 5, 3) := by decide +kernel
theorem dX0_isPushed_22 : decode cX0_isPushed 22 = .ok (.iconst 1, 1) := by decide +kernel
theorem dX0_isPushed_23 : decode cX0_isPushed 23 = .ok (.ireturn, 1) := by decide +kernel
theorem dX0_isPushed_24 : decode cX0_isPushed 24 = .ok (.iinc 2 1, 3) := by decide +kernel
theorem dX0_isPushed_27 : decode cX0_isPushed 27 = .ok (.goto (-25), 3) := by decide +kernel
theorem dX0_isPushed_30 : decode cX0_isPushed 30 = .ok (.iconst 0, 1) := by decide +kernel
theorem dX0_isPushed_31 : decode cX0_isPushed 31 = .ok (.ireturn, 1) := by decide +kernel
set_option maxRecDepth 20000 in
theorem ggX0_findPusherFor_X2_at : GoodIn wsX0_findPusherFor wsX2_at := goodIn_r _ [10, 11, 25] (by decide +kernel) (by decide +kernel)
set_option maxRecDepth 20000 in
theorem gX0_findPusherFor_X2_at : GoodIn wsX0_findPusherFor (wsV RX0 49 RX2 yX2_at wsX2_at) := goodIn_app (goodIn_of _ (by decide +kernel)) ggX0_findPusherFor_X2_at
set_option maxRecDepth 20000 in
theorem ggX0_findPusherFor_X2_set : GoodIn wsX0_findPusherFor wsX2_set := goodIn_r _ [15, 11, 25] (by decide +kernel) (by decide +kernel)
set_option maxRecDepth 20000 in
theorem gX0_findPusherFor_X2_set : GoodIn wsX0_findPusherFor (wsV RX0 45 RX2 yX2_set wsX2_set) := goodIn_app (goodIn_of _ (by decide +kernel)) ggX0_findPusherFor_X2_set
theorem dX0_findPusherFor_0 : decode cX0_findPusherFor 0 = .ok (.iconst 0, 1) := by decide +kernel
theorem dX0_findPusherFor_1 : decode cX0_findPusherFor 1 = .ok (.istore_n 2, 1) := by decide +kernel
theorem dX0_findPusherFor_2 : decode cX0_findPusherFor 2 = .ok (.iload_n 2, 1) := by decide +kernel
theorem dX0_findPusherFor_3 : decode cX0_findPusherFor 3 = .ok (.aload_n 0, 1) := by decide +kernel
theorem dX0_findPusherFor_4 : decode cX0_findPusherFor 4 = .ok (.getfield 41, 3) := by decide +kernel
theorem dX0_findPusherFor_7 : decode cX0_findPusherFor 7 = .ok (.if_icmp .ge 90, 3) := by decide +kernel
theorem dX0_findPusherFor_10 : decode cX0_findPusherFor 10 = .ok (.aload_n 0, 1) := by decide +kernel
theorem dX0_findPusherFor_11 : decode cX0_findPusherFor 11 = .ok (.getfield 29, 3) := by decide +kernel
theorem dX0_findPusherFor_14 : decode cX0_findPusherFor 14 = .ok (.iload_n 2, 1) := by decide +kernel
theorem dX0_findPusherFor_15 : decode cX0_findPusherFor 15 = .ok (.invokevirtual 49, 3) := by decide +kernel
theorem dX0_findPusherFor_18 : decode cX0_findPusherFor 18 = .ok (.ifCond .ne 19, 3) := by decide +kernel
theorem dX0_findPusherFor_21 : decode cX0_findPusherFor 21 = .ok (.aload_n 0, 1) := by decide +kernel
theorem dX0_findPusherFor_22 : decode cX0_findPusherFor 22 = .ok (.getfield 32, 3) := by decide +kernel
theorem dX0_findPusherFor_25 : decode cX0_findPusherFor 25 = .ok (.iload_n 2, 1) := by decide +kernel
theorem dX0_findPusherFor_26 : decode cX0_findPusherFor 26 = .ok (.invokevirtual 49, 3) := by decide +kernel
theorem dX0_findPusherFor_29 : decode cX0_findPusherFor 29 = .ok (.iconst (-1), 1) := by decide +kernel
theorem dX0_findPusherFor_30 : decode cX0_findPusherFor 30 = .ok (.if_icmp .ne 7, 3) := by decide +kernel
theorem dX0_findPusherFor_33 : decode cX0_findPusherFor 33 = .ok (.iconst 1, 1) := by decide +kernel
theorem dX0_findPusherFor_34 : decode cX0_findPusherFor 34 = .ok (.goto 4, 3) := by decide +kernel
theorem dX0_findPusherFor_37 : decode cX0_findPusherFor 37 = .ok (.iconst 0, 1) := by decide +kernel
theorem dX0_findPusherFor_38 : decode cX0_findPusherFor 38 = .ok (.istore_n 3, 1) := by decide +kernel
theorem dX0_findPusherFor_39 : decode cX0_findPusherFor 39 = .ok (.iload_n 3, 1) := by decide +kernel
theorem dX0_findPusherFor_40 : decode cX0_findPusherFor 40 = .ok (.ifCond .eq 51, 3) := by decide +kernel
theorem dX0_findPusherFor_43 : decode cX0_findPusherFor 43 = .ok (.aload_n 0, 1) := by decide +kernel
theorem dX0_findPusherFor_44 : decode cX0_findPusherFor 44 = .ok (.getfield 20, 3) := by decide +kernel
theorem dX0_findPusherFor_47 : decode cX0_findPusherFor 47 = .ok (.iload_n 2, 1) := by decide +kernel
theorem dX0_findPusherFor_48 : decode cX0_findPusherFor 48 = .ok (.invokevirtual 49, 3) := by decide +kernel
theorem dX0_findPusherFor_51 : decode cX0_findPusherFor 51 = .ok (.aload_n 0, 1) := by decide +kernel
theorem dX0_findPusherFor_52 : decode cX0_findPusherFor 52 = .ok (.getfield 20, 3) := by decide +kernel
theorem dX0_findPusherFor_55 : decode cX0_findPusherFor 55 = .ok (.iload_n 1, 1) := by decide +kernel
theorem dX0_findPusherFor_56 : decode cX0_findPusherFor 56 = .ok (.invokevirtual 49, 3) := by decide +kernel
theorem dX0_findPusherFor_59 : decode cX0_findPusherFor 59 = .ok (.if_icmp .ne 32, 3) := by decide +kernel
theorem dX0_findPusherFor_62 : decode cX0_findPusherFor 62 = .ok (.aload_n 0, 1) := by decide +kernel
theorem dX0_findPusherFor_63 : decode cX0_findPusherFor 63 = .ok (.getfield 14, 3) := by decide +kernel
theorem dX0_findPusherFor_66 : decode cX0_findPusherFor 66 = .ok (.iload_n 2, 1) := by decide +kernel
theorem dX0_findPusherFor_67 : decode cX0_findPusherFor 67 = .ok (.invokevirtual 49, 3) := by decide +kernel
theorem dX0_findPusherFor_70 : decode cX0_findPusherFor 70 = .ok (.aload_n 0, 1) := by decide +kernel
theorem dX0_findPusherFor_71 : decode cX0_findPusherFor 71 = .ok (.getfield 14, 3) := by decide +kernel
theorem dX0_findPusherFor_74 : decode cX0_findPusherFor 74 = .ok (.iload_n 1, 1) := by decide +kernel
theorem dX0_findPusherFor_75 : decode cX0_findPusherFor 75 = .ok (.invokevirtual 49, 3) := by decide +kernel
theorem dX0_findPusherFor_78 : decode cX0_findPusherFor 78 = .ok (.if_icmp .ne 13, 3) := by decide +kernel
theorem dX0_findPusherFor_81 : decode cX0_findPusherFor 81 = .ok (.aload_n 0, 1) := by decide +kernel
theorem dX0_findPusherFor_82 : decode cX0_findPusherFor 82 = .ok (.getfield 32, 3) := by decide +kernel
theorem dX0_findPusherFor_85 : decode cX0_findPusherFor 85 = .ok (.iload_n 2, 1) := by decide +kernel
theorem dX0_findPusherFor_86 : decode cX0_findPusherFor 86 = .ok (.iload_n 1, 1) := by decide +kernel
theorem dX0_findPusherFor_87 : decode cX0_findPusherFor 87 = .ok (.invokevirtual 45, 3) := by decide +kernel
theorem dX0_findPusherFor_90 : decode cX0_findPusherFor 90 = .ok (.return_, 1) := by decide +kernel
theorem dX0_findPusherFor_91 : decode cX0_findPusherFor 91 = .ok (.iinc 2 1, 3) := by decide +kernel
theorem dX0_findPusherFor_94 : decode cX0_findPusherFor 94 = .ok (.goto (-92), 3) := by decide +kernel
theorem dX0_findPusherFor_97 : decode cX0_findPusherFor 97 = .ok (.return_, 1) := by decide +kernel
set_option maxRecDepth 20000 in
theorem ggX0_breakDown_X2_set : GoodIn wsX0_breakDown wsX2_set := goodIn_r _ [9, 10, 20] (by decide +kernel) (by decide +kernel)
set_option maxRecDepth 20000 in
theorem gX0_breakDown_X2_set : GoodIn wsX0_breakDown (wsV RX0 45 RX2 yX2_set wsX2_set) := goodIn_app (goodIn_of _ (by decide +kernel)) ggX0_breakDown_X2_set
theorem dX0_breakDown_0 : decode cX0_breakDown 0 = .ok (.aload_n 0, 1) := by decide +kernel
theorem dX0_breakDown_1 : decode cX0_breakDown 1 = .ok (.getfield 29, 3) := by decide +kernel
theorem dX0_breakDown_4 : decode cX0_breakDown 4 = .ok (.iload_n 1, 1) := by decide +kernel
theorem dX0_breakDown_5 : decode cX0_breakDown 5 = .ok (.iconst 1, 1) := by decide +kernel
theorem dX0_breakDown_6 : decode cX0_breakDown 6 = .ok (.invokevirtual 45, 3) := by decide +kernel
theorem dX0_breakDown_9 : decode cX0_breakDown 9 = .ok (.aload_n 0, 1) := by decide +kernel
theorem dX0_breakDown_10 : decode cX0_breakDown 10 = .ok (.getfield 26, 3) := by decide +kernel
theorem dX0_breakDown_13 : decode cX0_breakDown 13 = .ok (.iload_n 1, 1) := by decide +kernel
theorem dX0_breakDown_14 : decode cX0_breakDown 14 = .ok (.bipush 99, 2) := by decide +kernel
theorem dX0_breakDown_16 : decode cX0_breakDown 16 = .ok (.invokevirtual 45, 3) := by decide +kernel
theorem dX0_breakDown_19 : decode cX0_breakDown 19 = .ok (.aload_n 0, 1) := by decide +kernel
theorem dX0_breakDown_20 : decode cX0_breakDown 20 = .ok (.getfield 23, 3) := by decide +kernel
theorem dX0_breakDown_23 : decode cX0_breakDown 23 = .ok (.iload_n 1, 1) := by decide +kernel
theorem dX0_breakDown_24 : decode cX0_breakDown 24 = .ok (.iconst 0, 1) := by decide +kernel
theorem dX0_breakDown_25 : decode cX0_breakDown 25 = .ok (.invokevirtual 45, 3) := by decide +kernel
theorem dX0_breakDown_28 : decode cX0_breakDown 28 = .ok (.aload_n 0, 1) := by decide +kernel
theorem dX0_breakDown_29 : decode cX0_breakDown 29 = .ok (.getfield 32, 3) := by decide +kernel
theorem dX0_breakDown_32 : decode cX0_breakDown 32 = .ok (.iload_n 1, 1) := by decide +kernel
theorem dX0_breakDown_33 : decode cX0_breakDown 33 = .ok (.iconst (-1), 1) := by decide +kernel
theorem dX0_breakDown_34 : decode cX0_breakDown 34 = .ok (.invokevirtual 45, 3) := by decide +kernel
theorem dX0_breakDown_37 : decode cX0_breakDown 37 = .ok (.return_, 1) := by decide +kernel
set_option maxRecDepth 20000 in
theorem ggX0_renew_X2_set : GoodIn wsX0_renew wsX2_set := goodIn_r _ [9, 10, 24] (by decide +kernel) (by decide +kernel)
set_option maxRecDepth 20000 in
theorem gX0_renew_X2_set : GoodIn wsX0_renew (wsV RX0 45 RX2 yX2_set wsX2_set) := goodIn_app (goodIn_of _ (by decide +kernel)) ggX0_renew_X2_set
set_option maxRecDepth 20000 in
theorem ggX0_renew_X2_at : GoodIn wsX0_renew wsX2_at := goodIn_r _ [14, 10, 24] (by decide +kernel) (by decide +kernel)
set_option maxRecDepth 20000 in
theorem gX0_renew_X2_at : GoodIn wsX0_renew (wsV RX0 49 RX2 yX2_at wsX2_at) := goodIn_app (goodIn_of _ (by decide +kernel)) ggX0_renew_X2_at
theorem dX0_renew_0 : decode cX0_renew 0 = .ok (.aload_n 0, 1) := by decide +kernel
theorem dX0_renew_1 : decode cX0_renew 1 = .ok (.getfield 29, 3) := by decide +kernel
theorem dX0_renew_4 : decode cX0_renew 4 = .ok (.iload_n 1, 1) := by decide +kernel
theorem dX0_renew_5 : decode cX0_renew 5 = .ok (.iconst 0, 1) := by decide +kernel
theorem dX0_renew_6 : decode cX0_renew 6 = .ok (.invokevirtual 45, 3) := by decide +kernel
theorem dX0_renew_9 : decode cX0_renew 9 = .ok (.aload_n 0, 1) := by decide +kernel
theorem dX0_renew_10 : decode cX0_renew 10 = .ok (.getfield 26, 3) := by decide +kernel
theorem dX0_renew_13 : decode cX0_renew 13 = .ok (.iload_n 1, 1) := by decide +kernel
theorem dX0_renew_14 : decode cX0_renew 14 = .ok (.iconst 0, 1) := by decide +kernel
theorem dX0_renew_15 : decode cX0_renew 15 = .ok (.invokevirtual 45, 3) := by decide +kernel
theorem dX0_renew_18 : decode cX0_renew 18 = .ok (.iconst 0, 1) := by decide +kernel
theorem dX0_renew_19 : decode cX0_renew 19 = .ok (.istore_n 2, 1) := by decide +kernel
theorem dX0_renew_20 : decode cX0_renew 20 = .ok (.iload_n 2, 1) := by decide +kernel
theorem dX0_renew_21 : decode cX0_renew 21 = .ok (.aload_n 0, 1) := by decide +kernel
theorem dX0_renew_22 : decode cX0_renew 22 = .ok (.getfield 41, 3) := by decide +kernel
theorem dX0_renew_25 : decode cX0_renew 25 = .ok (.if_icmp .ge 30, 3) := by decide +kernel
theorem dX0_renew_28 : decode cX0_renew 28 = .ok (.aload_n 0, 1) := by decide +kernel
theorem dX0_renew_29 : decode cX0_renew 29 = .ok (.getfield 32, 3) := by decide +kernel
theorem dX0_renew_32 : decode cX0_renew 32 = .ok (.iload_n 2, 1) := by decide +kernel
theorem dX0_renew_33 : decode cX0_renew 33 = .ok (.invokevirtual 49, 3) := by decide +kernel
theorem dX0_renew_36 : decode cX0_renew 36 = .ok (.iload_n 1, 1) := by decide +kernel
theorem dX0_renew_37 : decode cX0_renew 37 = .ok (.if_icmp .ne 12, 3) := by decide +kernel
theorem dX0_renew_40 : decode cX0_renew 40 = .ok (.aload_n 0, 1) := by decide +kernel
theorem dX0_renew_41 : decode cX0_renew 41 = .ok (.getfield 32, 3) := by decide +kernel
theorem dX0_renew_44 : decode cX0_renew 44 = .ok (.iload_n 2, 1) := by decide +kernel
theorem dX0_renew_45 : decode cX0_renew 45 = .ok (.iconst (-1), 1) := by decide +kernel
theorem dX0_renew_46 : decode cX0_renew 46 = .ok (.invokevirtual 45, 3) := by decide +kernel
theorem dX0_renew_49 : decode cX0_renew 49 = .ok (.iinc 2 1, 3) := by decide +kernel
theorem dX0_renew_52 : decode cX0_renew 52 = .ok (.goto (-32), 3) := by decide +kernel
theorem dX0_renew_55 : decode cX0_renew 55 = .ok (.return_, 1) := by decide +kernel
set_option maxRecDepth 20000 in
theorem ggX0_copyFrom_X2_copyFrom : GoodIn wsX0_copyFrom wsX2_copyFrom := goodIn_r _ [14, 15, 16, 17, 18, 13, 19, 29] (by decide +kernel) (by decide +kernel)
set_option maxRecDepth 20000 in
theorem gX0_copyFrom_X2_copyFrom : GoodIn wsX0_copyFrom (wsV RX0 63 RX2 yX2_copyFrom wsX2_copyFrom) := goodIn_app (goodIn_of _ (by decide +kernel)) ggX0_copyFrom_X2_copyFrom
theorem dX0_copyFrom_0 : decode cX0_copyFrom 0 = .ok (.aload_n 0, 1) := by decide +kernel
theorem dX0_copyFrom_1 : decode cX0_copyFrom 1 = .ok (.aload_n 1, 1) := by decide +kernel
theorem dX0_copyFrom_2 : decode cX0_copyFrom 2 = .ok (.getfield 41, 3) := by decide +kernel
theorem dX0_copyFrom_5 : decode cX0_copyFrom 5 = .ok (.putfield 41, 3) := by decide +kernel
theorem dX0_copyFrom_8 : decode cX0_copyFrom 8 = .ok (.aload_n 0, 1) := by decide +kernel
theorem dX0_copyFrom_9 : decode cX0_copyFrom 9 = .ok (.getfield 14, 3) := by decide +kernel
theorem dX0_copyFrom_12 : decode cX0_copyFrom 12 = .ok (.aload_n 1, 1) := by decide +kernel
theorem dX0_copyFrom_13 : decode cX0_copyFrom 13 = .ok (.getfield 14, 3) := by decide +kernel
theorem dX0_copyFrom_16 : decode cX0_copyFrom 16 = .ok (.invokevirtual 63, 3) := by decide +kernel
theorem dX0_copyFrom_19 : decode cX0_copyFrom 19 = .ok (.aload_n 0, 1) := by decide +kernel
theorem dX0_copyFrom_20 : decode cX0_copyFrom 20 = .ok (.getfield 20, 3) := by decide +kernel
theorem dX0_copyFrom_23 : decode cX0_copyFrom 23 = .ok (.aload_n 1, 1) := by decide +kernel
theorem dX0_copyFrom_24 : decode cX0_copyFrom 24 = .ok (.getfield 20, 3) := by decide +kernel
theorem dX0_copyFrom_27 : decode cX0_copyFrom 27 = .ok (.invokevirtual 63, 3) := by decide +kernel
theorem dX0_copyFrom_30 : decode cX0_copyFrom 30 = .ok (.aload_n 0, 1) := by decide +kernel
theorem dX0_copyFrom_31 : decode cX0_copyFrom 31 = .ok (.getfield 23, 3) := by decide +kernel
theorem dX0_copyFrom_34 : decode cX0_copyFrom 34 = .ok (.aload_n 1, 1) := by decide +kernel
theorem dX0_copyFrom_35 : decode cX0_copyFrom 35 = .ok (.getfield 23, 3) := by decide +kernel
theorem dX0_copyFrom_38 : decode cX0_copyFrom 38 = .ok (.invokevirtual 63, 3) := by decide +kernel
theorem dX0_copyFrom_41 : decode cX0_copyFrom 41 = .ok (.aload_n 0, 1) := by decide +kernel
theorem dX0_copyFrom_42 : decode cX0_copyFrom 42 = .ok (.getfield 26, 3) := by decide +kernel
theorem dX0_copyFrom_45 : decode cX0_copyFrom 45 = .ok (.aload_n 1, 1) := by decide +kernel
theorem dX0_copyFrom_46 : decode cX0_copyFrom 46 = .ok (.getfield 26, 3) := by decide +kernel
theorem dX0_copyFrom_49 : decode cX0_copyFrom 49 = .ok (.invokevirtual 63, 3) := by decide +kernel
theorem dX0_copyFrom_52 : decode cX0_copyFrom 52 = .ok (.aload_n 0, 1) := by decide +kernel
theorem dX0_copyFrom_53 : decode cX0_copyFrom 53 = .ok (.getfield 29, 3) := by decide +kernel
theorem dX0_copyFrom_56 : decode cX0_copyFrom 56 = .ok (.aload_n 1, 1) := by decide +kernel
theorem dX0_copyFrom_57 : decode cX0_copyFrom 57 = .ok (.getfield 29, 3) := by decide +kernel
theorem dX0_copyFrom_60 : decode cX0_copyFrom 60 = .ok (.invokevirtual 63, 3) := by decide +kernel
theorem dX0_copyFrom_63 : decode cX0_copyFrom 63 = .ok (.aload_n 0, 1) := by decide +kernel
theorem dX0_copyFrom_64 : decode cX0_copyFrom 64 = .ok (.getfield 32, 3) := by decide +kernel
theorem dX0_copyFrom_67 : decode cX0_copyFrom 67 = .ok (.aload_n 1, 1) := by decide +kernel
theorem dX0_copyFrom_68 : decode cX0_copyFrom 68 = .ok (.getfield 32, 3) := by decide +kernel
theorem dX0_copyFrom_71 : decode cX0_copyFrom 71 = .ok (.invokevirtual 63, 3) := by decide +kernel
theorem dX0_copyFrom_74 : decode cX0_copyFrom 74 = .ok (.aload_n 0, 1) := by decide +kernel
theorem dX0_copyFrom_75 : decode cX0_copyFrom 75 = .ok (.getfield 35, 3) := by decide +kernel
theorem dX0_copyFrom_78 : decode cX0_copyFrom 78 = .ok (.aload_n 1, 1) := by decide +kernel
theorem dX0_copyFrom_79 : decode cX0_copyFrom 79 = .ok (.getfield 35, 3) := by decide +kernel
theorem dX0_copyFrom_82 : decode cX0_copyFrom 82 = .ok (.invokevirtual 63, 3) := by decide +kernel
theorem dX0_copyFrom_85 : decode cX0_copyFrom 85 = .ok (.aload_n 0, 1) := by decide +kernel
theorem dX0_copyFrom_86 : decode cX0_copyFrom 86 = .ok (.getfield 38, 3) := by decide +kernel
theorem dX0_copyFrom_89 : decode cX0_copyFrom 89 = .ok (.aload_n 1, 1) := by decide +kernel
theorem dX0_copyFrom_90 : decode cX0_copyFrom 90 = .ok (.getfield 38, 3) := by decide +kernel
theorem dX0_copyFrom_93 : decode cX0_copyFrom 93 = .ok (.invokevirtual 63, 3) := by decide +kernel
theorem dX0_copyFrom_96 : decode cX0_copyFrom 96 = .ok (.return_, 1) := by decide +kernel
set_option maxRecDepth 20000 in
theorem ggX1_init_X4_init : GoodIn wsX1_init wsX4_init := goodIn_r _ [17, 18, 2, 3, 19, 20, 21, 22, 23, 24, 25, 26, 27, 28, 29, 30, 31, 32, 33, 34, 35, 36, 37, 38, 100, 74, 75, 76, 77, 78, 79, 80, 81, 82] (by decide +kernel) (by decide +kernel)
set_option maxRecDepth 20000 in
theorem gX1_init_X4_init_n11 : GoodIn wsX1_init (wsX4_init) := ggX1_init_X4_init
set_option maxRecDepth 20000 in
theorem ggX1_init_X3_init : GoodIn wsX1_init wsX3_init := goodIn_r _ [40, 41, 2, 3, 42, 20, 21, 43, 44, 45, 30, 31, 32, 33, 34, 35, 36, 37, 38, 100, 89, 90] (by decide +kernel) (by decide +kernel)
set_option maxRecDepth 20000 in
theorem gX1_init_X3_init_n20 : GoodIn wsX1_init (wsX3_init) := ggX1_init_X3_init
set_option maxRecDepth 20000 in
theorem ggX1_init_X0_init : GoodIn wsX1_init wsX0_init := goodIn_r _ [47, 48, 2, 3, 49, 20, 21, 50, 51, 52, 53, 54, 55, 56, 57, 58, 30, 31, 32, 33, 34, 35, 36, 37, 38, 100, 91, 92, 93, 94, 95, 96, 97, 98, 99] (by decide +kernel) (by decide +kernel)
set_option maxRecDepth 20000 in
theorem gX1_init_X0_init_n27 : GoodIn wsX1_init (wsX0_init) := ggX1_init_X0_init
set_option maxRecDepth 20000 in
theorem ggX1_init_X4_lay : GoodIn wsX1_init wsX4_lay := goodIn_r _ [62, 63, 64, 22, 23, 24, 25, 26, 27, 28, 65, 66, 67, 21, 68, 38, 74, 75, 76, 77, 78, 79, 80, 81, 82, 100] (by decide +kernel) (by decide +kernel)
set_option maxRecDepth 20000 in
theorem gX1_init_X4_lay : GoodIn wsX1_init (wsV RX1 32 RX4 yX4_lay wsX4_lay) := goodIn_app (goodIn_of _ (by decide +kernel)) ggX1_init_X4_lay
set_option maxRecDepth 20000 in
theorem ggX1_init_X3_clear : GoodIn wsX1_init wsX3_clear := goodIn_r _ [72, 43, 44, 73, 66, 67, 21, 68, 38, 89, 90, 100] (by decide +kernel) (by decide +kernel)
set_option maxRecDepth 20000 in
theorem gX1_init_X3_clear : GoodIn wsX1_init (wsV RX1 36 RX3 yX3_clear wsX3_clear) := goodIn_app (goodIn_of _ (by decide +kernel)) ggX1_init_X3_clear
theorem dX1_init_0 : decode cX1_init 0 = .ok (.aload_n 0, 1) := by decide +kernel
theorem dX1_init_1 : decode cX1_init 1 = .ok (.invokespecial 3, 3) := by decide +kernel
theorem dX1_init_4 : decode cX1_init 4 = .ok (.aload_n 0, 1) := by decide +kernel
theorem dX1_init_5 : decode cX1_init 5 = .ok (.new 9, 3) := by decide +kernel
theorem dX1_init_8 : decode cX1_init 8 = .ok (.dup, 1) := by decide +kernel
theorem dX1_init_9 : decode cX1_init 9 = .ok (.invokespecial 11, 3) := by decide +kernel
theorem dX1_init_12 : decode cX1_init 12 = .ok (.putfield 12, 3) := by decide +kernel
theorem dX1_init_15 : decode cX1_init 15 = .ok (.aload_n 0, 1) := by decide +kernel
theorem dX1_init_16 : decode cX1_init 16 = .ok (.new 18, 3) := by decide +kernel
theorem dX1_init_19 : decode cX1_init 19 = .ok (.dup, 1) := by decide +kernel
theorem dX1_init_20 : decode cX1_init 20 = .ok (.invokespecial 20, 3) := by decide +kernel
theorem dX1_init_23 : decode cX1_init 23 = .ok (.putfield 21, 3) := by decide +kernel
theorem dX1_init_26 : decode cX1_init 26 = .ok (.aload_n 0, 1) := by decide +kernel
theorem dX1_init_27 : decode cX1_init 27 = .ok (.new 25, 3) := by decide +kernel
theorem dX1_init_30 : decode cX1_init 30 = .ok (.dup, 1) := by decide +kernel
theorem dX1_init_31 : decode cX1_init 31 = .ok (.invokespecial 27, 3) := by decide +kernel
theorem dX1_init_34 : decode cX1_init 34 = .ok (.putfield 28, 3) := by decide +kernel
theorem dX1_init_37 : decode cX1_init 37 = .ok (.aload_n 0, 1) := by decide +kernel
theorem dX1_init_38 : decode cX1_init 38 = .ok (.getfield 12, 3) := by decide +kernel
theorem dX1_init_41 : decode cX1_init 41 = .ok (.bipush 8, 2) := by decide +kernel
theorem dX1_init_43 : decode cX1_init 43 = .ok (.invokevirtual 32, 3) := by decide +kernel
theorem dX1_init_46 : decode cX1_init 46 = .ok (.aload_n 0, 1) := by decide +kernel
theorem dX1_init_47 : decode cX1_init 47 = .ok (.getfield 21, 3) := by decide +kernel
theorem dX1_init_50 : decode cX1_init 50 = .ok (.invokevirtual 36, 3) := by decide +kernel
theorem dX1_init_53 : decode cX1_init 53 = .ok (.return_, 1) := by decide +kernel
set_option maxRecDepth 20000 in
theorem ggX1_copyFrom_X4_copyFrom : GoodIn wsX1_copyFrom wsX4_copyFrom := goodIn_r _ [11, 12, 13, 14, 15, 16, 17, 18, 19, 20, 21, 22, 23, 24, 25, 26, 27, 28, 29, 30, 60, 61, 62, 63, 64, 65, 66, 67, 68, 69] (by decide +kernel) (by decide +kernel)
set_option maxRecDepth 20000 in
theorem gX1_copyFrom_X4_copyFrom : GoodIn wsX1_copyFrom (wsV RX1 39 RX4 yX4_copyFrom wsX4_copyFrom) := goodIn_app (goodIn_of _ (by decide +kernel)) ggX1_copyFrom_X4_copyFrom
set_option maxRecDepth 20000 in
theorem ggX1_copyFrom_X3_copyFrom : GoodIn wsX1_copyFrom wsX3_copyFrom := goodIn_r _ [35, 36, 37, 38, 22, 23, 24, 25, 26, 27, 28, 29, 30, 70, 71, 69] (by decide +kernel) (by decide +kernel)
set_option maxRecDepth 20000 in
theorem gX1_copyFrom_X3_copyFrom : GoodIn wsX1_copyFrom (wsV RX1 43 RX3 yX3_copyFrom wsX3_copyFrom) := goodIn_app (goodIn_of _ (by decide +kernel)) ggX1_copyFrom_X3_copyFrom
set_option maxRecDepth 20000 in
theorem ggX1_copyFrom_X0_copyFrom : GoodIn wsX1_copyFrom wsX0_copyFrom := goodIn_r _ [43, 44, 45, 46, 47, 48, 49, 50, 51, 52, 53, 22, 23, 24, 25, 26, 27, 28, 29, 30, 72, 73, 74, 75, 76, 77, 78, 79, 80, 69] (by decide +kernel) (by decide +kernel)
set_option maxRecDepth 20000 in
theorem gX1_copyFrom_X0_copyFrom : GoodIn wsX1_copyFrom (wsV RX1 46 RX0 yX0_copyFrom wsX0_copyFrom) := goodIn_app (goodIn_of _ (by decide +kernel)) ggX1_copyFrom_X0_copyFrom
theorem dX1_copyFrom_0 : decode cX1_copyFrom 0 = .ok (.aload_n 0, 1) := by decide +kernel
theorem dX1_copyFrom_1 : decode cX1_copyFrom 1 = .ok (.getfield 12, 3) := by decide +kernel
theorem dX1_copyFrom_4 : decode cX1_copyFrom 4 = .ok (.aload_n 1, 1) := by decide +kernel
theorem dX1_copyFrom_5 : decode cX1_copyFrom 5 = .ok (.getfield 12, 3) := by decide +kernel
theorem dX1_copyFrom_8 : decode cX1_copyFrom 8 = .ok (.invokevirtual 39, 3) := by decide +kernel
theorem dX1_copyFrom_11 : decode cX1_copyFrom 11 = .ok (.aload_n 0, 1) := by decide +kernel
theorem dX1_copyFrom_12 : decode cX1_copyFrom 12 = .ok (.getfield 21, 3) := by decide +kernel
theorem dX1_copyFrom_15 : decode cX1_copyFrom 15 = .ok (.aload_n 1, 1) := by decide +kernel
theorem dX1_copyFrom_16 : decode cX1_copyFrom 16 = .ok (.getfield 21, 3) := by decide +kernel
theorem dX1_copyFrom_19 : decode cX1_copyFrom 19 = .ok (.invokevirtual 43, 3) := by decide +kernel
theorem dX1_copyFrom_22 : decode cX1_copyFrom 22 = .ok (.aload_n 0, 1) := by decide +kernel
theorem dX1_copyFrom_23 : decode cX1_copyFrom 23 = .ok (.getfield 28, 3) := by decide +kernel
theorem dX1_copyFrom_26 : decode cX1_copyFrom 26 = .ok (.aload_n 1, 1) := by decide +kernel
theorem dX1_copyFrom_27 : decode cX1_copyFrom 27 = .ok (.getfield 28, 3) := by decide +kernel
theorem dX1_copyFrom_30 : decode cX1_copyFrom 30 = .ok (.invokevirtual 46, 3) := by decide +kernel
theorem dX1_copyFrom_33 : decode cX1_copyFrom 33 = .ok (.aload_n 0, 1) := by decide +kernel
theorem dX1_copyFrom_34 : decode cX1_copyFrom 34 = .ok (.aload_n 1, 1) := by decide +kernel
theorem dX1_copyFrom_35 : decode cX1_copyFrom 35 = .ok (.getfield 49, 3) := by decide +kernel
theorem dX1_copyFrom_38 : decode cX1_copyFrom 38 = .ok (.putfield 49, 3) := by decide +kernel
theorem dX1_copyFrom_41 : decode cX1_copyFrom 41 = .ok (.aload_n 0, 1) := by decide +kernel
theorem dX1_copyFrom_42 : decode cX1_copyFrom 42 = .ok (.aload_n 1, 1) := by decide +kernel
theorem dX1_copyFrom_43 : decode cX1_copyFrom 43 = .ok (.getfield 53, 3) := by decide +kernel
theorem dX1_copyFrom_46 : decode cX1_copyFrom 46 = .ok (.putfield 53, 3) := by decide +kernel
theorem dX1_copyFrom_49 : decode cX1_copyFrom 49 = .ok (.aload_n 0, 1) := by decide +kernel
theorem dX1_copyFrom_50 : decode cX1_copyFrom 50 = .ok (.aload_n 1, 1) := by decide +kernel
theorem dX1_copyFrom_51 : decode cX1_copyFrom 51 = .ok (.getfield 56, 3) := by decide +kernel
theorem dX1_copyFrom_54 : decode cX1_copyFrom 54 = .ok (.putfield 56, 3) := by decide +kernel
theorem dX1_copyFrom_57 : decode cX1_copyFrom 57 = .ok (.return_, 1) := by decide +kernel
set_option maxRecDepth 20000 in
theorem ggX1_run_X1_tickOnce : GoodIn wsX1_run wsX1_tickOnce := goodIn_r _ [6, 7, 8, 9, 5, 10, 11, 12, 13, 14, 15, 16, 17, 18, 19, 20, 21, 22, 23, 24, 25, 26, 27, 28, 29, 30, 31, 32, 33, 34, 35, 36, 37, 38, 39, 40, 41, 42, 43, 44, 45, 46, 47, 48, 49, 50, 51, 52, 53, 54, 55, 56, 57, 58, 59, 60, 61, 62, 63, 64, 65, 66, 67, 68, 69, 70, 71, 72, 73, 74, 75, 76, 77, 78, 79, 80, 81, 82, 83, 84, 85, 86, 87, 88, 89, 90, 91, 92, 93, 94, 95, 96, 97, 98, 99, 100, 101, 102, 103, 104, 105, 106, 107, 108, 109, 110, 111, 112, 113, 114, 115, 116, 117, 118, 119, 120, 121, 122, 123, 124, 125, 126, 127, 128, 129, 130, 131, 132, 133, 134, 135, 136, 137, 138, 139, 140, 141, 1, 142, 143, 144, 145, 146, 147, 148, 149, 150, 151, 152, 153, 154, 155, 156, 157, 158, 159, 160, 161, 162, 163, 164, 165, 166, 167, 168, 169, 170, 171, 172, 173, 174, 175, 176, 177, 178, 179, 180, 181, 182, 183, 184, 185, 186, 187, 188, 189, 190, 191, 192, 193, 194, 195, 196, 197, 198, 199, 200, 201, 202, 203, 204, 205, 206, 207, 208, 209, 210, 211, 212, 213, 214, 215, 216, 217, 218, 219, 220] (by decide +kernel) (by decide +kernel)
set_option maxRecDepth 20000 in
theorem gX1_run_X1_tickOnce : GoodIn wsX1_run (wsV RX1 59 RX1 yX1_tickOnce wsX1_tickOnce) := goodIn_app (goodIn_of _ (by decide +kernel)) ggX1_run_X1_tickOnce
theorem dX1_run_0 : decode cX1_run 0 = .ok (.aload_n 0, 1) := by decide +kernel
theorem dX1_run_1 : decode cX1_run 1 = .ok (.getfield 53, 3) := by decide +kernel
theorem dX1_run_4 : decode cX1_run 4 = .ok (.istore_n 2, 1) := by decide +kernel
theorem dX1_run_5 : decode cX1_run 5 = .ok (.iconst 0, 1) := by decide +kernel
theorem dX1_run_6 : decode cX1_run 6 = .ok (.istore_n 3, 1) := by decide +kernel
theorem dX1_run_7 : decode cX1_run 7 = .ok (.iload_n 3, 1) := by decide +kernel
theorem dX1_run_8 : decode cX1_run 8 = .ok (.iload_n 1, 1) := by decide +kernel
theorem dX1_run_9 : decode cX1_run 9 = .ok (.if_icmp .ge 13, 3) := by decide +kernel
theorem dX1_run_12 : decode cX1_run 12 = .ok (.aload_n 0, 1) := by decide +kernel
theorem dX1_run_13 : decode cX1_run 13 = .ok (.invokevirtual 59, 3) := by decide +kernel
theorem dX1_run_16 : decode cX1_run 16 = .ok (.iinc 3 1, 3) := by decide +kernel
theorem dX1_run_19 : decode cX1_run 19 = .ok (.goto (-12), 3) := by decide +kernel
theorem dX1_run_22 : decode cX1_run 22 = .ok (.aload_n 0, 1) := by decide +kernel
theorem dX1_run_23 : decode cX1_run 23 = .ok (.getfield 53, 3) := by decide +kernel
theorem dX1_run_26 : decode cX1_run 26 = .ok (.iload_n 2, 1) := by decide +kernel
theorem dX1_run_27 : decode cX1_run 27 = .ok (.isub, 1) := by decide +kernel
theorem dX1_run_28 : decode cX1_run 28 = .ok (.ireturn, 1) := by decide +kernel
set_option maxRecDepth 20000 in
theorem ggX1_tickOnce_X1_turnCars : GoodIn wsX1_tickOnce wsX1_turnCars := goodIn_r _ [5, 6, 7, 8, 9, 10, 11, 12, 13, 14, 15, 16, 17, 18, 19, 20, 21, 22, 4, 23, 24, 25, 26, 27, 28, 29, 30, 31, 32, 33, 34, 35, 36, 37, 38, 39, 40, 41, 42, 43, 44, 45, 46, 47, 48, 49, 50, 190, 191, 192, 193, 194, 195, 196, 197, 198, 199, 200, 201, 202, 203, 204, 205, 206, 207, 208, 209, 210, 211, 212, 213, 214] (by decide +kernel) (by decide +kernel)
set_option maxRecDepth 20000 in
theorem gX1_tickOnce_X1_turnCars : GoodIn wsX1_tickOnce (wsV RX1 62 RX1 yX1_turnCars wsX1_turnCars) := goodIn_app (goodIn_of _ (by decide +kernel)) ggX1_tickOnce_X1_turnCars
set_option maxRecDepth 20000 in
theorem ggX1_tickOnce_X1_drawCurrent : GoodIn wsX1_tickOnce wsX1_drawCurrent := goodIn_r _ [54, 26, 55, 6, 7, 56, 57, 58, 17, 59, 19, 60, 61, 62, 4, 63, 64, 20, 21, 22, 23, 24, 25, 27, 15, 16, 18, 28, 29, 30, 31, 32, 33, 34, 35, 36, 65, 66, 67, 68, 69, 70, 71, 72, 73, 74, 8, 9, 10, 11, 12, 13, 14, 75, 48, 49, 50, 42, 76, 77, 78, 79, 80, 81, 82, 83, 84, 85, 86, 87, 88, 89, 90, 44, 45, 46, 91, 190, 191, 192, 193, 194, 195, 206, 207, 208, 209, 210, 211, 212, 213, 214, 196, 197, 198, 199, 200, 201, 202, 203, 204, 205] (by decide +kernel) (by decide +kernel)
set_option maxRecDepth 20000 in
theorem gX1_tickOnce_X1_drawCurrent : GoodIn wsX1_tickOnce (wsV RX1 65 RX1 yX1_drawCurrent wsX1_drawCurrent) := goodIn_app (goodIn_of _ (by decide +kernel)) ggX1_tickOnce_X1_drawCurrent
set_option maxRecDepth 20000 in
theorem ggX1_tickOnce_X1_moveCars : GoodIn wsX1_tickOnce wsX1_moveCars := goodIn_r _ [95, 6, 96, 7, 56, 57, 58, 17, 59, 19, 8, 9, 10, 11, 12, 13, 14, 15, 16, 18, 97, 98, 99, 4, 100, 26, 101, 64, 102, 20, 21, 22, 23, 24, 25, 27, 28, 29, 30, 31, 32, 33, 34, 35, 36, 103, 104, 105, 106, 107, 108, 109, 110, 111, 112, 75, 48, 49, 50, 42, 113, 114, 115, 116, 117, 43, 44, 45, 46, 118, 119, 120, 121, 122, 123, 77, 78, 79, 47, 190, 191, 192, 193, 194, 195, 196, 197, 198, 199, 200, 201, 202, 203, 204, 205, 206, 207, 208, 209, 210, 211, 212, 213, 214] (by decide +kernel) (by decide +kernel)
set_option maxRecDepth 20000 in
theorem gX1_tickOnce_X1_moveCars : GoodIn wsX1_tickOnce (wsV RX1 68 RX1 yX1_moveCars wsX1_moveCars) := goodIn_app (goodIn_of _ (by decide +kernel)) ggX1_tickOnce_X1_moveCars
set_option maxRecDepth 20000 in
theorem ggX1_tickOnce_X1_serveStops : GoodIn wsX1_tickOnce wsX1_serveStops := goodIn_r _ [127, 6, 7, 96, 27, 15, 16, 17, 18, 19, 128, 129, 130, 4, 131, 25, 74, 132, 133, 134, 135, 72, 136, 137, 76, 77, 78, 79, 138, 44, 45, 46, 139, 140, 141, 142, 143, 144, 145, 146, 147, 148, 149, 150, 151, 152, 153, 154, 155, 11, 156, 13, 157, 158, 42, 43, 190, 191, 192, 193, 194, 195, 196, 197, 198, 199, 200, 201, 202, 203, 204, 205, 215, 216] (by decide +kernel) (by decide +kernel)
set_option maxRecDepth 20000 in
theorem gX1_tickOnce_X1_serveStops : GoodIn wsX1_tickOnce (wsV RX1 71 RX1 yX1_serveStops wsX1_serveStops) := goodIn_app (goodIn_of _ (by decide +kernel)) ggX1_tickOnce_X1_serveStops
set_option maxRecDepth 20000 in
theorem ggX1_tickOnce_X1_mendCars : GoodIn wsX1_tickOnce wsX1_mendCars := goodIn_r _ [162, 6, 7, 8, 9, 10, 11, 12, 13, 14, 15, 16, 17, 18, 19, 163, 164, 165, 4, 166, 25, 132, 167, 168, 27, 76, 77, 78, 79, 169, 170, 171, 172, 157, 111, 42, 43, 44, 45, 46, 173, 174, 175, 176, 177, 178, 179, 180, 41, 112, 190, 191, 192, 193, 194, 195, 196, 197, 198, 199, 200, 201, 202, 203, 204, 205, 215, 216] (by decide +kernel) (by decide +kernel)
set_option maxRecDepth 20000 in
theorem gX1_tickOnce_X1_mendCars : GoodIn wsX1_tickOnce (wsV RX1 74 RX1 yX1_mendCars wsX1_mendCars) := goodIn_app (goodIn_of _ (by decide +kernel)) ggX1_tickOnce_X1_mendCars
set_option maxRecDepth 20000 in
theorem ggX1_tickOnce_X1_closeTick : GoodIn wsX1_tickOnce wsX1_closeTick := goodIn_r _ [184, 26, 185, 102, 132, 144, 145, 146, 147, 148, 149, 150, 135, 72, 136, 151, 15, 16, 17, 18, 19, 152, 44, 45, 46, 186, 187, 188, 31, 189, 84, 85, 89, 91, 77, 78, 79, 190, 191, 192, 193, 194, 195, 206, 207, 208, 209, 210, 211, 212, 213, 214, 215, 216, 205] (by decide +kernel) (by decide +kernel)
set_option maxRecDepth 20000 in
theorem gX1_tickOnce_X1_closeTick : GoodIn wsX1_tickOnce (wsV RX1 77 RX1 yX1_closeTick wsX1_closeTick) := goodIn_app (goodIn_of _ (by decide +kernel)) ggX1_tickOnce_X1_closeTick
theorem dX1_tickOnce_0 : decode cX1_tickOnce 0 = .ok (.aload_n 0, 1) := by decide +kernel
theorem dX1_tickOnce_1 : decode cX1_tickOnce 1 = .ok (.invokevirtual 62, 3) := by decide +kernel
theorem dX1_tickOnce_4 : decode cX1_tickOnce 4 = .ok (.aload_n 0, 1) := by decide +kernel
theorem dX1_tickOnce_5 : decode cX1_tickOnce 5 = .ok (.invokevirtual 65, 3) := by decide +kernel
theorem dX1_tickOnce_8 : decode cX1_tickOnce 8 = .ok (.aload_n 0, 1) := by decide +kernel
theorem dX1_tickOnce_9 : decode cX1_tickOnce 9 = .ok (.invokevirtual 68, 3) := by decide +kernel
theorem dX1_tickOnce_12 : decode cX1_tickOnce 12 = .ok (.aload_n 0, 1) := by decide +kernel
theorem dX1_tickOnce_13 : decode cX1_tickOnce 13 = .ok (.invokevirtual 71, 3) := by decide +kernel
theorem dX1_tickOnce_16 : decode cX1_tickOnce 16 = .ok (.aload_n 0, 1) := by decide +kernel
theorem dX1_tickOnce_17 : decode cX1_tickOnce 17 = .ok (.invokevirtual 74, 3) := by decide +kernel
theorem dX1_tickOnce_20 : decode cX1_tickOnce 20 = .ok (.aload_n 0, 1) := by decide +kernel
theorem dX1_tickOnce_21 : decode cX1_tickOnce 21 = .ok (.invokevirtual 77, 3) := by decide +kernel
theorem dX1_tickOnce_24 : decode cX1_tickOnce 24 = .ok (.return_, 1) := by decide +kernel
set_option maxRecDepth 20000 in
theorem ggX1_turnCars_X0_runs : GoodIn wsX1_turnCars wsX0_runs := goodIn_r _ [7, 8, 9, 10, 11, 12, 13, 14, 53, 54, 55, 56, 57, 58, 59, 60, 61, 62] (by decide +kernel) (by decide +kernel)
set_option maxRecDepth 20000 in
theorem gX1_turnCars_X0_runs : GoodIn wsX1_turnCars (wsV RX1 83 RX0 yX0_runs wsX0_runs) := goodIn_app (goodIn_of _ (by decide +kernel)) ggX1_turnCars_X0_runs
set_option maxRecDepth 20000 in
theorem ggX1_turnCars_X1_spanAhead : GoodIn wsX1_turnCars wsX1_spanAhead := goodIn_r _ [19, 1, 20, 21, 22, 23, 10, 11, 12, 13, 14, 24, 25, 26, 27, 28, 29, 30, 31, 32, 47, 48, 49, 50, 51, 52, 53, 54, 55, 56, 57, 58, 59, 60, 61, 62, 63, 64, 65, 66, 67, 68, 69, 70, 71] (by decide +kernel) (by decide +kernel)
set_option maxRecDepth 20000 in
theorem gX1_turnCars_X1_spanAhead : GoodIn wsX1_turnCars (wsV RX1 87 RX1 yX1_spanAhead wsX1_spanAhead) := goodIn_app (goodIn_of _ (by decide +kernel)) ggX1_turnCars_X1_spanAhead
set_option maxRecDepth 20000 in
theorem ggX1_turnCars_X0_turn : GoodIn wsX1_turnCars wsX0_turn := goodIn_r _ [36, 37, 38, 9, 10, 11, 12, 13, 14, 39, 40, 41, 42, 43, 44, 45, 6, 46, 53, 54, 55, 56, 57, 58, 59, 60, 61, 62] (by decide +kernel) (by decide +kernel)
set_option maxRecDepth 20000 in
theorem gX1_turnCars_X0_turn : GoodIn wsX1_turnCars (wsV RX1 91 RX0 yX0_turn wsX0_turn) := goodIn_app (goodIn_of _ (by decide +kernel)) ggX1_turnCars_X0_turn
theorem dX1_turnCars_0 : decode cX1_turnCars 0 = .ok (.iconst 0, 1) := by decide +kernel
theorem dX1_turnCars_1 : decode cX1_turnCars 1 = .ok (.istore_n 1, 1) := by decide +kernel
theorem dX1_turnCars_2 : decode cX1_turnCars 2 = .ok (.iload_n 1, 1) := by decide +kernel
theorem dX1_turnCars_3 : decode cX1_turnCars 3 = .ok (.aload_n 0, 1) := by decide +kernel
theorem dX1_turnCars_4 : decode cX1_turnCars 4 = .ok (.getfield 28, 3) := by decide +kernel
theorem dX1_turnCars_7 : decode cX1_turnCars 7 = .ok (.getfield 80, 3) := by decide +kernel
theorem dX1_turnCars_10 : decode cX1_turnCars 10 = .ok (.if_icmp .ge 37, 3) := by decide +kernel
theorem dX1_turnCars_13 : decode cX1_turnCars 13 = .ok (.aload_n 0, 1) := by decide +kernel
theorem dX1_turnCars_14 : decode cX1_turnCars 14 = .ok (.getfield 28, 3) := by decide +kernel
theorem dX1_turnCars_17 : decode cX1_turnCars 17 = .ok (.iload_n 1, 1) := by decide +kernel
theorem dX1_turnCars_18 : decode cX1_turnCars 18 = .ok (.invokevirtual 83, 3) := by decide +kernel
theorem dX1_turnCars_21 : decode cX1_turnCars 21 = .ok (.ifCond .eq 20, 3) := by decide +kernel
theorem dX1_turnCars_24 : decode cX1_turnCars 24 = .ok (.aload_n 0, 1) := by decide +kernel
theorem dX1_turnCars_25 : decode cX1_turnCars 25 = .ok (.iload_n 1, 1) := by decide +kernel
theorem dX1_turnCars_26 : decode cX1_turnCars 26 = .ok (.invokevirtual 87, 3) := by decide +kernel
theorem dX1_turnCars_29 : decode cX1_turnCars 29 = .ok (.iconst (-1), 1) := by decide +kernel
theorem dX1_turnCars_30 : decode cX1_turnCars 30 = .ok (.if_icmp .ne 11, 3) := by decide +kernel
theorem dX1_turnCars_33 : decode cX1_turnCars 33 = .ok (.aload_n 0, 1) := by decide +kernel
theorem dX1_turnCars_34 : decode cX1_turnCars 34 = .ok (.getfield 28, 3) := by decide +kernel
theorem dX1_turnCars_37 : decode cX1_turnCars 37 = .ok (.iload_n 1, 1) := by decide +kernel
theorem dX1_turnCars_38 : decode cX1_turnCars 38 = .ok (.invokevirtual 91, 3) := by decide +kernel
theorem dX1_turnCars_41 : decode cX1_turnCars 41 = .ok (.iinc 1 1, 3) := by decide +kernel
theorem dX1_turnCars_44 : decode cX1_turnCars 44 = .ok (.goto (-42), 3) := by decide +kernel
theorem dX1_turnCars_47 : decode cX1_turnCars 47 = .ok (.return_, 1) := by decide +kernel
set_option maxRecDepth 20000 in
theorem ggX1_drawCurrent_X2_fill : GoodIn wsX1_drawCurrent wsX2_fill := goodIn_r _ [9, 10, 101] (by decide +kernel) (by decide +kernel)
set_option maxRecDepth 20000 in
theorem gX1_drawCurrent_X2_fill : GoodIn wsX1_drawCurrent (wsV RX1 98 RX2 yX2_fill wsX2_fill) := goodIn_app (goodIn_of _ (by decide +kernel)) ggX1_drawCurrent_X2_fill
set_option maxRecDepth 20000 in
theorem ggX1_drawCurrent_X1_sectionAhead : GoodIn wsX1_drawCurrent wsX1_sectionAhead := goodIn_r _ [15, 1, 16, 17, 18, 19, 14, 20, 3, 21, 22, 23, 24, 25, 8, 26, 10, 27, 28, 29, 30, 31, 32, 33, 34, 35, 77, 78, 79, 80, 81, 82, 83, 84, 85, 86, 87, 88, 89, 90, 91, 92, 93, 94, 95, 96, 97, 98, 99, 100, 101] (by decide +kernel) (by decide +kernel)
set_option maxRecDepth 20000 in
theorem gX1_drawCurrent_X1_sectionAhead : GoodIn wsX1_drawCurrent (wsV RX1 103 RX1 yX1_sectionAhead wsX1_sectionAhead) := goodIn_app (goodIn_of _ (by decide +kernel)) ggX1_drawCurrent_X1_sectionAhead
set_option maxRecDepth 20000 in
theorem ggX1_drawCurrent_X1_drawOf : GoodIn wsX1_drawCurrent wsX1_drawOf := goodIn_r _ [39, 3, 1, 40, 21, 41, 42, 43, 44, 45, 17, 18, 19, 14, 20, 22, 23, 24, 25, 8, 26, 10, 27, 28, 29, 30, 31, 32, 33, 34, 35, 46, 47, 48, 49, 50, 51, 52, 53, 54, 55, 56, 57, 77, 78, 79, 80, 81, 82, 83, 84, 85, 86, 87, 88, 89, 90, 91, 92, 93, 94, 95, 96, 97, 98, 99, 100, 101] (by decide +kernel) (by decide +kernel)
set_option maxRecDepth 20000 in
theorem gX1_drawCurrent_X1_drawOf : GoodIn wsX1_drawCurrent (wsV RX1 106 RX1 yX1_drawOf wsX1_drawOf) := goodIn_app (goodIn_of _ (by decide +kernel)) ggX1_drawCurrent_X1_drawOf
set_option maxRecDepth 20000 in
theorem ggX1_drawCurrent_X2_add : GoodIn wsX1_drawCurrent wsX2_add := goodIn_r _ [61, 10, 101] (by decide +kernel) (by decide +kernel)
set_option maxRecDepth 20000 in
theorem gX1_drawCurrent_X2_add : GoodIn wsX1_drawCurrent (wsV RX1 109 RX2 yX2_add wsX2_add) := goodIn_app (goodIn_of _ (by decide +kernel)) ggX1_drawCurrent_X2_add
set_option maxRecDepth 20000 in
theorem ggX1_drawCurrent_X4_breakOverdrawn : GoodIn wsX1_drawCurrent wsX4_breakOverdrawn := goodIn_r _ [65, 66, 67, 68, 69, 70, 71, 24, 25, 8, 26, 10, 72, 73, 74, 75, 76, 59, 60, 61, 83, 84, 85, 86, 87, 88, 89, 90, 91, 101] (by decide +kernel) (by decide +kernel)
set_option maxRecDepth 20000 in
theorem gX1_drawCurrent_X4_breakOverdrawn : GoodIn wsX1_drawCurrent (wsV RX1 113 RX4 yX4_breakOverdrawn wsX4_breakOverdrawn) := goodIn_app (goodIn_of _ (by decide +kernel)) ggX1_drawCurrent_X4_breakOverdrawn
theorem dX1_drawCurrent_0 : decode cX1_drawCurrent 0 = .ok (.aload_n 0, 1) := by decide +kernel
theorem dX1_drawCurrent_1 : decode cX1_drawCurrent 1 = .ok (.getfield 12, 3) := by decide +kernel
theorem dX1_drawCurrent_4 : decode cX1_drawCurrent 4 = .ok (.getfield 94, 3) := by decide +kernel
theorem dX1_drawCurrent_7 : decode cX1_drawCurrent 7 = .ok (.iconst 0, 1) := by decide +kernel
theorem dX1_drawCurrent_8 : decode cX1_drawCurrent 8 = .ok (.invokevirtual 98, 3) := by decide +kernel
theorem dX1_drawCurrent_11 : decode cX1_drawCurrent 11 = .ok (.iconst 0, 1) := by decide +kernel
theorem dX1_drawCurrent_12 : decode cX1_drawCurrent 12 = .ok (.istore_n 1, 1) := by decide +kernel
theorem dX1_drawCurrent_13 : decode cX1_drawCurrent 13 = .ok (.iload_n 1, 1) := by decide +kernel
theorem dX1_drawCurrent_14 : decode cX1_drawCurrent 14 = .ok (.aload_n 0, 1) := by decide +kernel
theorem dX1_drawCurrent_15 : decode cX1_drawCurrent 15 = .ok (.getfield 28, 3) := by decide +kernel
theorem dX1_drawCurrent_18 : decode cX1_drawCurrent 18 = .ok (.getfield 80, 3) := by decide +kernel
theorem dX1_drawCurrent_21 : decode cX1_drawCurrent 21 = .ok (.if_icmp .ge 29, 3) := by decide +kernel
theorem dX1_drawCurrent_24 : decode cX1_drawCurrent 24 = .ok (.aload_n 0, 1) := by decide +kernel
theorem dX1_drawCurrent_25 : decode cX1_drawCurrent 25 = .ok (.getfield 12, 3) := by decide +kernel
theorem dX1_drawCurrent_28 : decode cX1_drawCurrent 28 = .ok (.getfield 94, 3) := by decide +kernel
theorem dX1_drawCurrent_31 : decode cX1_drawCurrent 31 = .ok (.aload_n 0, 1) := by decide +kernel
theorem dX1_drawCurrent_32 : decode cX1_drawCurrent 32 = .ok (.iload_n 1, 1) := by decide +kernel
theorem dX1_drawCurrent_33 : decode cX1_drawCurrent 33 = .ok (.invokevirtual 103, 3) := by decide +kernel
theorem dX1_drawCurrent_36 : decode cX1_drawCurrent 36 = .ok (.aload_n 0, 1) := by decide +kernel
theorem dX1_drawCurrent_37 : decode cX1_drawCurrent 37 = .ok (.iload_n 1, 1) := by decide +kernel
theorem dX1_drawCurrent_38 : decode cX1_drawCurrent 38 = .ok (.invokevirtual 106, 3) := by decide +kernel
theorem dX1_drawCurrent_41 : decode cX1_drawCurrent 41 = .ok (.invokevirtual 109, 3) := by decide +kernel
theorem dX1_drawCurrent_44 : decode cX1_drawCurrent 44 = .ok (.iinc 1 1, 3) := by decide +kernel
theorem dX1_drawCurrent_47 : decode cX1_drawCurrent 47 = .ok (.goto (-34), 3) := by decide +kernel
theorem dX1_drawCurrent_50 : decode cX1_drawCurrent 50 = .ok (.aload_n 0, 1) := by decide +kernel
theorem dX1_drawCurrent_51 : decode cX1_drawCurrent 51 = .ok (.getfield 12, 3) := by decide +kernel
theorem dX1_drawCurrent_54 : decode cX1_drawCurrent 54 = .ok (.invokevirtual 113, 3) := by decide +kernel
theorem dX1_drawCurrent_57 : decode cX1_drawCurrent 57 = .ok (.return_, 1) := by decide +kernel
set_option maxRecDepth 20000 in
theorem ggX1_moveCars_X2_fill : GoodIn wsX1_moveCars wsX2_fill := goodIn_r _ [8, 9, 94] (by decide +kernel) (by decide +kernel)
set_option maxRecDepth 20000 in
theorem gX1_moveCars_X2_fill : GoodIn wsX1_moveCars (wsV RX1 98 RX2 yX2_fill wsX2_fill) := goodIn_app (goodIn_of _ (by decide +kernel)) ggX1_moveCars_X2_fill
set_option maxRecDepth 20000 in
theorem ggX1_moveCars_X0_runs : GoodIn wsX1_moveCars wsX0_runs := goodIn_r _ [14, 15, 16, 17, 18, 7, 19, 9, 85, 86, 87, 88, 89, 90, 91, 92, 93, 94] (by decide +kernel) (by decide +kernel)
set_option maxRecDepth 20000 in
theorem gX1_moveCars_X0_runs : GoodIn wsX1_moveCars (wsV RX1 83 RX0 yX0_runs wsX0_runs) := goodIn_app (goodIn_of _ (by decide +kernel)) ggX1_moveCars_X0_runs
set_option maxRecDepth 20000 in
theorem ggX1_moveCars_X1_canGo : GoodIn wsX1_moveCars wsX1_canGo := goodIn_r _ [24, 25, 26, 27, 1, 28, 29, 30, 31, 23, 32, 33, 34, 35, 17, 18, 7, 19, 9, 36, 37, 38, 39, 40, 41, 42, 43, 44, 45, 46, 47, 48, 49, 50, 51, 13, 52, 53, 54, 16, 55, 56, 57, 58, 59, 79, 80, 81, 82, 83, 84, 95, 96, 97, 98, 99, 100, 101, 102, 103, 85, 86, 87, 88, 89, 90, 91, 92, 93, 94] (by decide +kernel) (by decide +kernel)
set_option maxRecDepth 20000 in
theorem gX1_moveCars_X1_canGo : GoodIn wsX1_moveCars (wsV RX1 119 RX1 yX1_canGo wsX1_canGo) := goodIn_app (goodIn_of _ (by decide +kernel)) ggX1_moveCars_X1_canGo
set_option maxRecDepth 20000 in
theorem ggX1_moveCars_X1_poleAhead : GoodIn wsX1_moveCars wsX1_poleAhead := goodIn_r _ [48, 1, 34, 33, 35, 17, 18, 7, 19, 9, 79, 80, 81, 82, 83, 84, 85, 86, 87, 88, 89, 90, 91, 92, 93, 94] (by decide +kernel) (by decide +kernel)
set_option maxRecDepth 20000 in
theorem gX1_moveCars_X1_poleAhead : GoodIn wsX1_moveCars (wsV RX1 122 RX1 yX1_poleAhead wsX1_poleAhead) := goodIn_app (goodIn_of _ (by decide +kernel)) ggX1_moveCars_X1_poleAhead
set_option maxRecDepth 20000 in
theorem ggX1_moveCars_X0_moveTo : GoodIn wsX1_moveCars wsX0_moveTo := goodIn_r _ [63, 64, 59, 65, 66, 67, 7, 68, 9, 69, 70, 71, 13, 72, 54, 73, 74, 75, 76, 77, 78, 56, 57, 58, 16, 17, 18, 19, 85, 86, 87, 88, 89, 90, 91, 92, 93, 94] (by decide +kernel) (by decide +kernel)
set_option maxRecDepth 20000 in
theorem gX1_moveCars_X0_moveTo : GoodIn wsX1_moveCars (wsV RX1 125 RX0 yX0_moveTo wsX0_moveTo) := goodIn_app (goodIn_of _ (by decide +kernel)) ggX1_moveCars_X0_moveTo
theorem dX1_moveCars_0 : decode cX1_moveCars 0 = .ok (.aload_n 0, 1) := by decide +kernel
theorem dX1_moveCars_1 : decode cX1_moveCars 1 = .ok (.getfield 28, 3) := by decide +kernel
theorem dX1_moveCars_4 : decode cX1_moveCars 4 = .ok (.getfield 116, 3) := by decide +kernel
theorem dX1_moveCars_7 : decode cX1_moveCars 7 = .ok (.iconst 0, 1) := by decide +kernel
theorem dX1_moveCars_8 : decode cX1_moveCars 8 = .ok (.invokevirtual 98, 3) := by decide +kernel
theorem dX1_moveCars_11 : decode cX1_moveCars 11 = .ok (.iconst 0, 1) := by decide +kernel
theorem dX1_moveCars_12 : decode cX1_moveCars 12 = .ok (.istore_n 1, 1) := by decide +kernel
theorem dX1_moveCars_13 : decode cX1_moveCars 13 = .ok (.iload_n 1, 1) := by decide +kernel
theorem dX1_moveCars_14 : decode cX1_moveCars 14 = .ok (.aload_n 0, 1) := by decide +kernel
theorem dX1_moveCars_15 : decode cX1_moveCars 15 = .ok (.getfield 28, 3) := by decide +kernel
theorem dX1_moveCars_18 : decode cX1_moveCars 18 = .ok (.getfield 80, 3) := by decide +kernel
theorem dX1_moveCars_21 : decode cX1_moveCars 21 = .ok (.if_icmp .ge 41, 3) := by decide +kernel
theorem dX1_moveCars_24 : decode cX1_moveCars 24 = .ok (.aload_n 0, 1) := by decide +kernel
theorem dX1_moveCars_25 : decode cX1_moveCars 25 = .ok (.getfield 28, 3) := by decide +kernel
theorem dX1_moveCars_28 : decode cX1_moveCars 28 = .ok (.iload_n 1, 1) := by decide +kernel
theorem dX1_moveCars_29 : decode cX1_moveCars 29 = .ok (.invokevirtual 83, 3) := by decide +kernel
theorem dX1_moveCars_32 : decode cX1_moveCars 32 = .ok (.ifCond .eq 24, 3) := by decide +kernel
theorem dX1_moveCars_35 : decode cX1_moveCars 35 = .ok (.aload_n 0, 1) := by decide +kernel
theorem dX1_moveCars_36 : decode cX1_moveCars 36 = .ok (.iload_n 1, 1) := by decide +kernel
theorem dX1_moveCars_37 : decode cX1_moveCars 37 = .ok (.invokevirtual 119, 3) := by decide +kernel
theorem dX1_moveCars_40 : decode cX1_moveCars 40 = .ok (.ifCond .eq 16, 3) := by decide +kernel
theorem dX1_moveCars_43 : decode cX1_moveCars 43 = .ok (.aload_n 0, 1) := by decide +kernel
theorem dX1_moveCars_44 : decode cX1_moveCars 44 = .ok (.getfield 28, 3) := by decide +kernel
theorem dX1_moveCars_47 : decode cX1_moveCars 47 = .ok (.iload_n 1, 1) := by decide +kernel
theorem dX1_moveCars_48 : decode cX1_moveCars 48 = .ok (.aload_n 0, 1) := by decide +kernel
theorem dX1_moveCars_49 : decode cX1_moveCars 49 = .ok (.iload_n 1, 1) := by decide +kernel
theorem dX1_moveCars_50 : decode cX1_moveCars 50 = .ok (.invokevirtual 122, 3) := by decide +kernel
theorem dX1_moveCars_53 : decode cX1_moveCars 53 = .ok (.invokevirtual 125, 3) := by decide +kernel
theorem dX1_moveCars_56 : decode cX1_moveCars 56 = .ok (.iinc 1 1, 3) := by decide +kernel
theorem dX1_moveCars_59 : decode cX1_moveCars 59 = .ok (.goto (-46), 3) := by decide +kernel
theorem dX1_moveCars_62 : decode cX1_moveCars 62 = .ok (.return_, 1) := by decide +kernel
set_option maxRecDepth 20000 in
theorem ggX1_canGo_X1_spanAhead : GoodIn wsX1_canGo wsX1_spanAhead := goodIn_r _ [10, 4, 11, 12, 1, 13, 14, 15, 16, 17, 18, 19, 20, 21, 22, 23, 24, 25, 26, 27, 45, 46, 47, 48, 49, 50, 60, 61, 62, 63, 64, 65, 66, 67, 68, 69, 51, 52, 53, 54, 55, 56, 57, 58, 59] (by decide +kernel) (by decide +kernel)
set_option maxRecDepth 20000 in
theorem gX1_canGo_X1_spanAhead : GoodIn wsX1_canGo (wsV RX1 87 RX1 yX1_spanAhead wsX1_spanAhead) := goodIn_app (goodIn_of _ (by decide +kernel)) ggX1_canGo_X1_spanAhead
set_option maxRecDepth 20000 in
theorem ggX1_canGo_X2_at : GoodIn wsX1_canGo wsX2_at := goodIn_r _ [17, 18, 69] (by decide +kernel) (by decide +kernel)
set_option maxRecDepth 20000 in
theorem gX1_canGo_X2_at : GoodIn wsX1_canGo (wsV RX1 134 RX2 yX2_at wsX2_at) := goodIn_app (goodIn_of _ (by decide +kernel)) ggX1_canGo_X2_at
set_option maxRecDepth 20000 in
theorem ggX1_canGo_X1_poleAhead : GoodIn wsX1_canGo wsX1_poleAhead := goodIn_r _ [31, 4, 12, 11, 13, 14, 15, 16, 17, 18, 45, 46, 47, 48, 49, 50, 60, 61, 62, 63, 64, 65, 66, 67, 68, 69] (by decide +kernel) (by decide +kernel)
set_option maxRecDepth 20000 in
theorem gX1_canGo_X1_poleAhead : GoodIn wsX1_canGo (wsV RX1 122 RX1 yX1_poleAhead wsX1_poleAhead) := goodIn_app (goodIn_of _ (by decide +kernel)) ggX1_canGo_X1_poleAhead
set_option maxRecDepth 20000 in
theorem ggX1_canGo_X0_carsAt : GoodIn wsX1_canGo wsX0_carsAt := goodIn_r _ [36, 37, 38, 39, 14, 15, 16, 17, 18, 60, 61, 62, 63, 64, 65, 66, 67, 68, 69] (by decide +kernel) (by decide +kernel)
set_option maxRecDepth 20000 in
theorem gX1_canGo_X0_carsAt : GoodIn wsX1_canGo (wsV RX1 137 RX0 yX0_carsAt wsX0_carsAt) := goodIn_app (goodIn_of _ (by decide +kernel)) ggX1_canGo_X0_carsAt
set_option maxRecDepth 20000 in
theorem ggX1_canGo_X0_pushes : GoodIn wsX1_canGo wsX0_pushes := goodIn_r _ [43, 44, 39, 14, 15, 16, 17, 18, 60, 61, 62, 63, 64, 65, 66, 67, 68, 69] (by decide +kernel) (by decide +kernel)
set_option maxRecDepth 20000 in
theorem gX1_canGo_X0_pushes : GoodIn wsX1_canGo (wsV RX1 140 RX0 yX0_pushes wsX0_pushes) := goodIn_app (goodIn_of _ (by decide +kernel)) ggX1_canGo_X0_pushes
theorem dX1_canGo_0 : decode cX1_canGo 0 = .ok (.aload_n 0, 1) := by decide +kernel
theorem dX1_canGo_1 : decode cX1_canGo 1 = .ok (.iload_n 1, 1) := by decide +kernel
theorem dX1_canGo_2 : decode cX1_canGo 2 = .ok (.invokevirtual 87, 3) := by decide +kernel
theorem dX1_canGo_5 : decode cX1_canGo 5 = .ok (.istore_n 2, 1) := by decide +kernel
theorem dX1_canGo_6 : decode cX1_canGo 6 = .ok (.iload_n 2, 1) := by decide +kernel
theorem dX1_canGo_7 : decode cX1_canGo 7 = .ok (.iconst (-1), 1) := by decide +kernel
theorem dX1_canGo_8 : decode cX1_canGo 8 = .ok (.if_icmp .eq 27, 3) := by decide +kernel
theorem dX1_canGo_11 : decode cX1_canGo 11 = .ok (.aload_n 0, 1) := by decide +kernel
theorem dX1_canGo_12 : decode cX1_canGo 12 = .ok (.getfield 12, 3) := by decide +kernel
theorem dX1_canGo_15 : decode cX1_canGo 15 = .ok (.getfield 128, 3) := by decide +kernel
theorem dX1_canGo_18 : decode cX1_canGo 18 = .ok (.aload_n 0, 1) := by decide +kernel
theorem dX1_canGo_19 : decode cX1_canGo 19 = .ok (.getfield 12, 3) := by decide +kernel
theorem dX1_canGo_22 : decode cX1_canGo 22 = .ok (.getfield 131, 3) := by decide +kernel
theorem dX1_canGo_25 : decode cX1_canGo 25 = .ok (.iload_n 2, 1) := by decide +kernel
theorem dX1_canGo_26 : decode cX1_canGo 26 = .ok (.invokevirtual 134, 3) := by decide +kernel
theorem dX1_canGo_29 : decode cX1_canGo 29 = .ok (.invokevirtual 134, 3) := by decide +kernel
theorem dX1_canGo_32 : decode cX1_canGo 32 = .ok (.ifCond .le 5, 3) := by decide +kernel
theorem dX1_canGo_35 : decode cX1_canGo 35 = .ok (.iconst 0, 1) := by decide +kernel
theorem dX1_canGo_36 : decode cX1_canGo 36 = .ok (.ireturn, 1) := by decide +kernel
theorem dX1_canGo_37 : decode cX1_canGo 37 = .ok (.aload_n 0, 1) := by decide +kernel
theorem dX1_canGo_38 : decode cX1_canGo 38 = .ok (.getfield 28, 3) := by decide +kernel
theorem dX1_canGo_41 : decode cX1_canGo 41 = .ok (.aload_n 0, 1) := by decide +kernel
theorem dX1_canGo_42 : decode cX1_canGo 42 = .ok (.iload_n 1, 1) := by decide +kernel
theorem dX1_canGo_43 : decode cX1_canGo 43 = .ok (.invokevirtual 122, 3) := by decide +kernel
theorem dX1_canGo_46 : decode cX1_canGo 46 = .ok (.invokevirtual 137, 3) := by decide +kernel
theorem dX1_canGo_49 : decode cX1_canGo 49 = .ok (.istore_n 3, 1) := by decide +kernel
theorem dX1_canGo_50 : decode cX1_canGo 50 = .ok (.aload_n 0, 1) := by decide +kernel
theorem dX1_canGo_51 : decode cX1_canGo 51 = .ok (.getfield 28, 3) := by decide +kernel
theorem dX1_canGo_54 : decode cX1_canGo 54 = .ok (.iload_n 1, 1) := by decide +kernel
theorem dX1_canGo_55 : decode cX1_canGo 55 = .ok (.invokevirtual 140, 3) := by decide +kernel
theorem dX1_canGo_58 : decode cX1_canGo 58 = .ok (.ifCond .eq 22, 3) := by decide +kernel
theorem dX1_canGo_61 : decode cX1_canGo 61 = .ok (.aload_n 0, 1) := by decide +kernel
theorem dX1_canGo_62 : decode cX1_canGo 62 = .ok (.getfield 49, 3) := by decide +kernel
theorem dX1_canGo_65 : decode cX1_canGo 65 = .ok (.iconst 2, 1) := by decide +kernel
theorem dX1_canGo_66 : decode cX1_canGo 66 = .ok (.irem, 1) := by decide +kernel
theorem dX1_canGo_67 : decode cX1_canGo 67 = .ok (.ifCond .ne 11, 3) := by decide +kernel
theorem dX1_canGo_70 : decode cX1_canGo 70 = .ok (.iload_n 3, 1) := by decide +kernel
theorem dX1_canGo_71 : decode cX1_canGo 71 = .ok (.ifCond .ne 7, 3) := by decide +kernel
theorem dX1_canGo_74 : decode cX1_canGo 74 = .ok (.iconst 1, 1) := by decide +kernel
theorem dX1_canGo_75 : decode cX1_canGo 75 = .ok (.goto 4, 3) := by decide +kernel
theorem dX1_canGo_78 : decode cX1_canGo 78 = .ok (.iconst 0, 1) := by decide +kernel
theorem dX1_canGo_79 : decode cX1_canGo 79 = .ok (.ireturn, 1) := by decide +kernel
theorem dX1_canGo_80 : decode cX1_canGo 80 = .ok (.iload_n 3, 1) := by decide +kernel
theorem dX1_canGo_81 : decode cX1_canGo 81 = .ok (.iconst 2, 1) := by decide +kernel
theorem dX1_canGo_82 : decode cX1_canGo 82 = .ok (.if_icmp .ge 7, 3) := by decide +kernel
theorem dX1_canGo_85 : decode cX1_canGo 85 = .ok (.iconst 1, 1) := by decide +kernel
theorem dX1_canGo_86 : decode cX1_canGo 86 = .ok (.goto 4, 3) := by decide +kernel
theorem dX1_canGo_89 : decode cX1_canGo 89 = .ok (.iconst 0, 1) := by decide +kernel
theorem dX1_canGo_90 : decode cX1_canGo 90 = .ok (.ireturn, 1) := by decide +kernel
set_option maxRecDepth 20000 in
theorem ggX1_serveStops_X2_at : GoodIn wsX1_serveStops wsX2_at := goodIn_r _ [8, 9, 71] (by decide +kernel) (by decide +kernel)
set_option maxRecDepth 20000 in
theorem gX1_serveStops_X2_at : GoodIn wsX1_serveStops (wsV RX1 134 RX2 yX2_at wsX2_at) := goodIn_app (goodIn_of _ (by decide +kernel)) ggX1_serveStops_X2_at
set_option maxRecDepth 20000 in
theorem ggX1_serveStops_X1_exchangeRiders : GoodIn wsX1_serveStops wsX1_exchangeRiders := goodIn_r _ [14, 1, 15, 16, 17, 18, 19, 20, 21, 22, 23, 4, 5, 6, 7, 8, 9, 24, 25, 26, 27, 28, 29, 30, 31, 56, 57, 58, 59, 60, 61, 62, 63, 64, 65, 66, 67, 68, 69, 70, 72, 73, 71] (by decide +kernel) (by decide +kernel)
set_option maxRecDepth 20000 in
theorem gX1_serveStops_X1_exchangeRiders : GoodIn wsX1_serveStops (wsV RX1 143 RX1 yX1_exchangeRiders wsX1_exchangeRiders) := goodIn_app (goodIn_of _ (by decide +kernel)) ggX1_serveStops_X1_exchangeRiders
set_option maxRecDepth 20000 in
theorem ggX1_serveStops_X1_wearOut : GoodIn wsX1_serveStops wsX1_wearOut := goodIn_r _ [35, 1, 36, 16, 17, 15, 4, 5, 6, 7, 8, 9, 24, 25, 26, 27, 37, 38, 39, 40, 41, 42, 43, 20, 21, 22, 44, 45, 29, 30, 31, 46, 47, 48, 49, 50, 51, 52, 53, 54, 55, 56, 57, 58, 59, 60, 61, 62, 63, 64, 65, 66, 67, 68, 69, 70, 71, 72, 73] (by decide +kernel) (by decide +kernel)
set_option maxRecDepth 20000 in
theorem gX1_serveStops_X1_wearOut : GoodIn wsX1_serveStops (wsV RX1 146 RX1 yX1_wearOut wsX1_wearOut) := goodIn_app (goodIn_of _ (by decide +kernel)) ggX1_serveStops_X1_wearOut
theorem dX1_serveStops_0 : decode cX1_serveStops 0 = .ok (.iconst 0, 1) := by decide +kernel
theorem dX1_serveStops_1 : decode cX1_serveStops 1 = .ok (.istore_n 1, 1) := by decide +kernel
theorem dX1_serveStops_2 : decode cX1_serveStops 2 = .ok (.iload_n 1, 1) := by decide +kernel
theorem dX1_serveStops_3 : decode cX1_serveStops 3 = .ok (.aload_n 0, 1) := by decide +kernel
theorem dX1_serveStops_4 : decode cX1_serveStops 4 = .ok (.getfield 28, 3) := by decide +kernel
theorem dX1_serveStops_7 : decode cX1_serveStops 7 = .ok (.getfield 80, 3) := by decide +kernel
theorem dX1_serveStops_10 : decode cX1_serveStops 10 = .ok (.if_icmp .ge 34, 3) := by decide +kernel
theorem dX1_serveStops_13 : decode cX1_serveStops 13 = .ok (.aload_n 0, 1) := by decide +kernel
theorem dX1_serveStops_14 : decode cX1_serveStops 14 = .ok (.getfield 28, 3) := by decide +kernel
theorem dX1_serveStops_17 : decode cX1_serveStops 17 = .ok (.getfield 116, 3) := by decide +kernel
theorem dX1_serveStops_20 : decode cX1_serveStops 20 = .ok (.iload_n 1, 1) := by decide +kernel
theorem dX1_serveStops_21 : decode cX1_serveStops 21 = .ok (.invokevirtual 134, 3) := by decide +kernel
theorem dX1_serveStops_24 : decode cX1_serveStops 24 = .ok (.iconst 1, 1) := by decide +kernel
theorem dX1_serveStops_25 : decode cX1_serveStops 25 = .ok (.if_icmp .ne 13, 3) := by decide +kernel
theorem dX1_serveStops_28 : decode cX1_serveStops 28 = .ok (.aload_n 0, 1) := by decide +kernel
theorem dX1_serveStops_29 : decode cX1_serveStops 29 = .ok (.iload_n 1, 1) := by decide +kernel
theorem dX1_serveStops_30 : decode cX1_serveStops 30 = .ok (.invokevirtual 143, 3) := by decide +kernel
theorem dX1_serveStops_33 : decode cX1_serveStops 33 = .ok (.aload_n 0, 1) := by decide +kernel
theorem dX1_serveStops_34 : decode cX1_serveStops 34 = .ok (.iload_n 1, 1) := by decide +kernel
theorem dX1_serveStops_35 : decode cX1_serveStops 35 = .ok (.invokevirtual 146, 3) := by decide +kernel
theorem dX1_serveStops_38 : decode cX1_serveStops 38 = .ok (.iinc 1 1, 3) := by decide +kernel
theorem dX1_serveStops_41 : decode cX1_serveStops 41 = .ok (.goto (-39), 3) := by decide +kernel
theorem dX1_serveStops_44 : decode cX1_serveStops 44 = .ok (.return_, 1) := by decide +kernel
set_option maxRecDepth 20000 in
theorem ggX1_exchangeRiders_X2_at : GoodIn wsX1_exchangeRiders wsX2_at := goodIn_r _ [15, 16, 42] (by decide +kernel) (by decide +kernel)
set_option maxRecDepth 20000 in
theorem gX1_exchangeRiders_X2_at : GoodIn wsX1_exchangeRiders (wsV RX1 134 RX2 yX2_at wsX2_at) := goodIn_app (goodIn_of _ (by decide +kernel)) ggX1_exchangeRiders_X2_at
set_option maxRecDepth 20000 in
theorem ggX1_exchangeRiders_X2_add : GoodIn wsX1_exchangeRiders wsX2_add := goodIn_r _ [20, 16, 42] (by decide +kernel) (by decide +kernel)
set_option maxRecDepth 20000 in
theorem gX1_exchangeRiders_X2_add : GoodIn wsX1_exchangeRiders (wsV RX1 109 RX2 yX2_add wsX2_add) := goodIn_app (goodIn_of _ (by decide +kernel)) ggX1_exchangeRiders_X2_add
set_option maxRecDepth 20000 in
theorem ggX1_exchangeRiders_X2_set : GoodIn wsX1_exchangeRiders wsX2_set := goodIn_r _ [24, 16, 42] (by decide +kernel) (by decide +kernel)
set_option maxRecDepth 20000 in
theorem gX1_exchangeRiders_X2_set : GoodIn wsX1_exchangeRiders (wsV RX1 164 RX2 yX2_set wsX2_set) := goodIn_app (goodIn_of _ (by decide +kernel)) ggX1_exchangeRiders_X2_set
theorem dX1_exchangeRiders_0 : decode cX1_exchangeRiders 0 = .ok (.aload_n 0, 1) := by decide +kernel
theorem dX1_exchangeRiders_1 : decode cX1_exchangeRiders 1 = .ok (.getfield 28, 3) := by decide +kernel
theorem dX1_exchangeRiders_4 : decode cX1_exchangeRiders 4 = .ok (.getfield 149, 3) := by decide +kernel
theorem dX1_exchangeRiders_7 : decode cX1_exchangeRiders 7 = .ok (.iload_n 1, 1) := by decide +kernel
theorem dX1_exchangeRiders_8 : decode cX1_exchangeRiders 8 = .ok (.invokevirtual 134, 3) := by decide +kernel
theorem dX1_exchangeRiders_11 : decode cX1_exchangeRiders 11 = .ok (.istore_n 2, 1) := by decide +kernel
theorem dX1_exchangeRiders_12 : decode cX1_exchangeRiders 12 = .ok (.aload_n 0, 1) := by decide +kernel
theorem dX1_exchangeRiders_13 : decode cX1_exchangeRiders 13 = .ok (.getfield 28, 3) := by decide +kernel
theorem dX1_exchangeRiders_16 : decode cX1_exchangeRiders 16 = .ok (.getfield 152, 3) := by decide +kernel
theorem dX1_exchangeRiders_19 : decode cX1_exchangeRiders 19 = .ok (.iload_n 1, 1) := by decide +kernel
theorem dX1_exchangeRiders_20 : decode cX1_exchangeRiders 20 = .ok (.invokevirtual 134, 3) := by decide +kernel
theorem dX1_exchangeRiders_23 : decode cX1_exchangeRiders 23 = .ok (.aload_n 0, 1) := by decide +kernel
theorem dX1_exchangeRiders_24 : decode cX1_exchangeRiders 24 = .ok (.getfield 28, 3) := by decide +kernel
theorem dX1_exchangeRiders_27 : decode cX1_exchangeRiders 27 = .ok (.getfield 152, 3) := by decide +kernel
theorem dX1_exchangeRiders_30 : decode cX1_exchangeRiders 30 = .ok (.iload_n 1, 1) := by decide +kernel
theorem dX1_exchangeRiders_31 : decode cX1_exchangeRiders 31 = .ok (.invokevirtual 134, 3) := by decide +kernel
theorem dX1_exchangeRiders_34 : decode cX1_exchangeRiders 34 = .ok (.iconst 2, 1) := by decide +kernel
theorem dX1_exchangeRiders_35 : decode cX1_exchangeRiders 35 = .ok (.idiv, 1) := by decide +kernel
theorem dX1_exchangeRiders_36 : decode cX1_exchangeRiders 36 = .ok (.isub, 1) := by decide +kernel
theorem dX1_exchangeRiders_37 : decode cX1_exchangeRiders 37 = .ok (.istore_n 3, 1) := by decide +kernel
theorem dX1_exchangeRiders_38 : decode cX1_exchangeRiders 38 = .ok (.aload_n 0, 1) := by decide +kernel
theorem dX1_exchangeRiders_39 : decode cX1_exchangeRiders 39 = .ok (.getfield 21, 3) := by decide +kernel
theorem dX1_exchangeRiders_42 : decode cX1_exchangeRiders 42 = .ok (.getfield 155, 3) := by decide +kernel
theorem dX1_exchangeRiders_45 : decode cX1_exchangeRiders 45 = .ok (.iload_n 2, 1) := by decide +kernel
theorem dX1_exchangeRiders_46 : decode cX1_exchangeRiders 46 = .ok (.invokevirtual 134, 3) := by decide +kernel
theorem dX1_exchangeRiders_49 : decode cX1_exchangeRiders 49 = .ok (.bipush 30, 2) := by decide +kernel
theorem dX1_exchangeRiders_51 : decode cX1_exchangeRiders 51 = .ok (.iload_n 3, 1) := by decide +kernel
theorem dX1_exchangeRiders_52 : decode cX1_exchangeRiders 52 = .ok (.isub, 1) := by decide +kernel
theorem dX1_exchangeRiders_53 : decode cX1_exchangeRiders 53 = .ok (.invokestatic 158, 3) := by decide +kernel
theorem dX1_exchangeRiders_56 : decode cX1_exchangeRiders 56 = .ok (.istore 4, 2) := by decide +kernel
theorem dX1_exchangeRiders_58 : decode cX1_exchangeRiders 58 = .ok (.aload_n 0, 1) := by decide +kernel
theorem dX1_exchangeRiders_59 : decode cX1_exchangeRiders 59 = .ok (.getfield 21, 3) := by decide +kernel
theorem dX1_exchangeRiders_62 : decode cX1_exchangeRiders 62 = .ok (.getfield 155, 3) := by decide +kernel
theorem dX1_exchangeRiders_65 : decode cX1_exchangeRiders 65 = .ok (.iload_n 2, 1) := by decide +kernel
theorem dX1_exchangeRiders_66 : decode cX1_exchangeRiders 66 = .ok (.iload 4, 2) := by decide +kernel
theorem dX1_exchangeRiders_68 : decode cX1_exchangeRiders 68 = .ok (.ineg, 1) := by decide +kernel
theorem dX1_exchangeRiders_69 : decode cX1_exchangeRiders 69 = .ok (.invokevirtual 109, 3) := by decide +kernel
theorem dX1_exchangeRiders_72 : decode cX1_exchangeRiders 72 = .ok (.aload_n 0, 1) := by decide +kernel
theorem dX1_exchangeRiders_73 : decode cX1_exchangeRiders 73 = .ok (.getfield 28, 3) := by decide +kernel
theorem dX1_exchangeRiders_76 : decode cX1_exchangeRiders 76 = .ok (.getfield 152, 3) := by decide +kernel
theorem dX1_exchangeRiders_79 : decode cX1_exchangeRiders 79 = .ok (.iload_n 1, 1) := by decide +kernel
theorem dX1_exchangeRiders_80 : decode cX1_exchangeRiders 80 = .ok (.iload_n 3, 1) := by decide +kernel
theorem dX1_exchangeRiders_81 : decode cX1_exchangeRiders 81 = .ok (.iload 4, 2) := by decide +kernel
theorem dX1_exchangeRiders_83 : decode cX1_exchangeRiders 83 = .ok (.iadd, 1) := by decide +kernel
theorem dX1_exchangeRiders_84 : decode cX1_exchangeRiders 84 = .ok (.invokevirtual 164, 3) := by decide +kernel
theorem dX1_exchangeRiders_87 : decode cX1_exchangeRiders 87 = .ok (.aload_n 0, 1) := by decide +kernel
theorem dX1_exchangeRiders_88 : decode cX1_exchangeRiders 88 = .ok (.dup, 1) := by decide +kernel
theorem dX1_exchangeRiders_89 : decode cX1_exchangeRiders 89 = .ok (.getfield 53, 3) := by decide +kernel
theorem dX1_exchangeRiders_92 : decode cX1_exchangeRiders 92 = .ok (.iload 4, 2) := by decide +kernel
theorem dX1_exchangeRiders_94 : decode cX1_exchangeRiders 94 = .ok (.iadd, 1) := by decide +kernel
theorem dX1_exchangeRiders_95 : decode cX1_exchangeRiders 95 = .ok (.putfield 53, 3) := by decide +kernel
theorem dX1_exchangeRiders_98 : decode cX1_exchangeRiders 98 = .ok (.return_, 1) := by decide +kernel
set_option maxRecDepth 20000 in
theorem ggX1_wearOut_X2_at : GoodIn wsX1_wearOut wsX2_at := goodIn_r _ [10, 11, 56] (by decide +kernel) (by decide +kernel)
set_option maxRecDepth 20000 in
theorem gX1_wearOut_X2_at : GoodIn wsX1_wearOut (wsV RX1 134 RX2 yX2_at wsX2_at) := goodIn_app (goodIn_of _ (by decide +kernel)) ggX1_wearOut_X2_at
set_option maxRecDepth 20000 in
theorem ggX1_wearOut_X2_add : GoodIn wsX1_wearOut wsX2_add := goodIn_r _ [15, 11, 56] (by decide +kernel) (by decide +kernel)
set_option maxRecDepth 20000 in
theorem gX1_wearOut_X2_add : GoodIn wsX1_wearOut (wsV RX1 109 RX2 yX2_add wsX2_add) := goodIn_app (goodIn_of _ (by decide +kernel)) ggX1_wearOut_X2_add
set_option maxRecDepth 20000 in
theorem ggX1_wearOut_X3_welcome : GoodIn wsX1_wearOut wsX3_welcome := goodIn_r _ [20, 21, 22, 23, 24, 25, 26, 7, 8, 9, 10, 11, 27, 28, 29, 30, 57, 58, 56] (by decide +kernel) (by decide +kernel)
set_option maxRecDepth 20000 in
theorem gX1_wearOut_X3_welcome : GoodIn wsX1_wearOut (wsV RX1 170 RX3 yX3_welcome wsX3_welcome) := goodIn_app (goodIn_of _ (by decide +kernel)) ggX1_wearOut_X3_welcome
set_option maxRecDepth 20000 in
theorem ggX1_wearOut_X0_breakDown : GoodIn wsX1_wearOut wsX0_breakDown := goodIn_r _ [35, 36, 37, 38, 39, 40, 28, 29, 9, 30, 11, 47, 48, 49, 50, 51, 52, 53, 54, 55, 56] (by decide +kernel) (by decide +kernel)
set_option maxRecDepth 20000 in
theorem gX1_wearOut_X0_breakDown : GoodIn wsX1_wearOut (wsV RX1 173 RX0 yX0_breakDown wsX0_breakDown) := goodIn_app (goodIn_of _ (by decide +kernel)) ggX1_wearOut_X0_breakDown
theorem dX1_wearOut_0 : decode cX1_wearOut 0 = .ok (.aload_n 0, 1) := by decide +kernel
theorem dX1_wearOut_1 : decode cX1_wearOut 1 = .ok (.getfield 28, 3) := by decide +kernel
theorem dX1_wearOut_4 : decode cX1_wearOut 4 = .ok (.getfield 167, 3) := by decide +kernel
theorem dX1_wearOut_7 : decode cX1_wearOut 7 = .ok (.iload_n 1, 1) := by decide +kernel
theorem dX1_wearOut_8 : decode cX1_wearOut 8 = .ok (.aload_n 0, 1) := by decide +kernel
theorem dX1_wearOut_9 : decode cX1_wearOut 9 = .ok (.getfield 28, 3) := by decide +kernel
theorem dX1_wearOut_12 : decode cX1_wearOut 12 = .ok (.getfield 152, 3) := by decide +kernel
theorem dX1_wearOut_15 : decode cX1_wearOut 15 = .ok (.iload_n 1, 1) := by decide +kernel
theorem dX1_wearOut_16 : decode cX1_wearOut 16 = .ok (.invokevirtual 134, 3) := by decide +kernel
theorem dX1_wearOut_19 : decode cX1_wearOut 19 = .ok (.bipush 20, 2) := by decide +kernel
theorem dX1_wearOut_21 : decode cX1_wearOut 21 = .ok (.if_icmp .le 7, 3) := by decide +kernel
theorem dX1_wearOut_24 : decode cX1_wearOut 24 = .ok (.iconst 5, 1) := by decide +kernel
theorem dX1_wearOut_25 : decode cX1_wearOut 25 = .ok (.goto 4, 3) := by decide +kernel
theorem dX1_wearOut_28 : decode cX1_wearOut 28 = .ok (.iconst 3, 1) := by decide +kernel
theorem dX1_wearOut_29 : decode cX1_wearOut 29 = .ok (.invokevirtual 109, 3) := by decide +kernel
theorem dX1_wearOut_32 : decode cX1_wearOut 32 = .ok (.aload_n 0, 1) := by decide +kernel
theorem dX1_wearOut_33 : decode cX1_wearOut 33 = .ok (.getfield 28, 3) := by decide +kernel
theorem dX1_wearOut_36 : decode cX1_wearOut 36 = .ok (.getfield 167, 3) := by decide +kernel
theorem dX1_wearOut_39 : decode cX1_wearOut 39 = .ok (.iload_n 1, 1) := by decide +kernel
theorem dX1_wearOut_40 : decode cX1_wearOut 40 = .ok (.invokevirtual 134, 3) := by decide +kernel
theorem dX1_wearOut_43 : decode cX1_wearOut 43 = .ok (.bipush 99, 2) := by decide +kernel
theorem dX1_wearOut_45 : decode cX1_wearOut 45 = .ok (.if_icmp .le 40, 3) := by decide +kernel
theorem dX1_wearOut_48 : decode cX1_wearOut 48 = .ok (.aload_n 0, 1) := by decide +kernel
theorem dX1_wearOut_49 : decode cX1_wearOut 49 = .ok (.getfield 21, 3) := by decide +kernel
theorem dX1_wearOut_52 : decode cX1_wearOut 52 = .ok (.aload_n 0, 1) := by decide +kernel
theorem dX1_wearOut_53 : decode cX1_wearOut 53 = .ok (.getfield 28, 3) := by decide +kernel
theorem dX1_wearOut_56 : decode cX1_wearOut 56 = .ok (.getfield 149, 3) := by decide +kernel
theorem dX1_wearOut_59 : decode cX1_wearOut 59 = .ok (.iload_n 1, 1) := by decide +kernel
theorem dX1_wearOut_60 : decode cX1_wearOut 60 = .ok (.invokevirtual 134, 3) := by decide +kernel
theorem dX1_wearOut_63 : decode cX1_wearOut 63 = .ok (.aload_n 0, 1) := by decide +kernel
theorem dX1_wearOut_64 : decode cX1_wearOut 64 = .ok (.getfield 28, 3) := by decide +kernel
theorem dX1_wearOut_67 : decode cX1_wearOut 67 = .ok (.getfield 152, 3) := by decide +kernel
theorem dX1_wearOut_70 : decode cX1_wearOut 70 = .ok (.iload_n 1, 1) := by decide +kernel
theorem dX1_wearOut_71 : decode cX1_wearOut 71 = .ok (.invokevirtual 134, 3) := by decide +kernel
theorem dX1_wearOut_74 : decode cX1_wearOut 74 = .ok (.invokevirtual 170, 3) := by decide +kernel
theorem dX1_wearOut_77 : decode cX1_wearOut 77 = .ok (.aload_n 0, 1) := by decide +kernel
theorem dX1_wearOut_78 : decode cX1_wearOut 78 = .ok (.getfield 28, 3) := by decide +kernel
theorem dX1_wearOut_81 : decode cX1_wearOut 81 = .ok (.iload_n 1, 1) := by decide +kernel
theorem dX1_wearOut_82 : decode cX1_wearOut 82 = .ok (.invokevirtual 173, 3) := by decide +kernel
theorem dX1_wearOut_85 : decode cX1_wearOut 85 = .ok (.return_, 1) := by decide +kernel
set_option maxRecDepth 20000 in
theorem ggX1_mendCars_X0_runs : GoodIn wsX1_mendCars wsX0_runs := goodIn_r _ [7, 8, 9, 10, 11, 12, 13, 14, 56, 57, 58, 59, 60, 61, 62, 63, 64, 65] (by decide +kernel) (by decide +kernel)
set_option maxRecDepth 20000 in
theorem gX1_mendCars_X0_runs : GoodIn wsX1_mendCars (wsV RX1 83 RX0 yX0_runs wsX0_runs) := goodIn_app (goodIn_of _ (by decide +kernel)) ggX1_mendCars_X0_runs
set_option maxRecDepth 20000 in
theorem ggX1_mendCars_X1_mend : GoodIn wsX1_mendCars wsX1_mend := goodIn_r _ [19, 1, 20, 21, 22, 23, 24, 10, 11, 12, 13, 14, 25, 26, 27, 28, 29, 30, 31, 6, 32, 8, 33, 34, 35, 36, 37, 38, 39, 9, 40, 41, 42, 43, 44, 45, 46, 47, 48, 49, 50, 51, 52, 53, 54, 55, 56, 57, 58, 59, 60, 61, 62, 63, 64, 66, 67, 65] (by decide +kernel) (by decide +kernel)
set_option maxRecDepth 20000 in
theorem gX1_mendCars_X1_mend : GoodIn wsX1_mendCars (wsV RX1 176 RX1 yX1_mend wsX1_mend) := goodIn_app (goodIn_of _ (by decide +kernel)) ggX1_mendCars_X1_mend
theorem dX1_mendCars_0 : decode cX1_mendCars 0 = .ok (.iconst 0, 1) := by decide +kernel
theorem dX1_mendCars_1 : decode cX1_mendCars 1 = .ok (.istore_n 1, 1) := by decide +kernel
theorem dX1_mendCars_2 : decode cX1_mendCars 2 = .ok (.iload_n 1, 1) := by decide +kernel
theorem dX1_mendCars_3 : decode cX1_mendCars 3 = .ok (.aload_n 0, 1) := by decide +kernel
theorem dX1_mendCars_4 : decode cX1_mendCars 4 = .ok (.getfield 28, 3) := by decide +kernel
theorem dX1_mendCars_7 : decode cX1_mendCars 7 = .ok (.getfield 80, 3) := by decide +kernel
theorem dX1_mendCars_10 : decode cX1_mendCars 10 = .ok (.if_icmp .ge 25, 3) := by decide +kernel
theorem dX1_mendCars_13 : decode cX1_mendCars 13 = .ok (.aload_n 0, 1) := by decide +kernel
theorem dX1_mendCars_14 : decode cX1_mendCars 14 = .ok (.getfield 28, 3) := by decide +kernel
theorem dX1_mendCars_17 : decode cX1_mendCars 17 = .ok (.iload_n 1, 1) := by decide +kernel
theorem dX1_mendCars_18 : decode cX1_mendCars 18 = .ok (.invokevirtual 83, 3) := by decide +kernel
theorem dX1_mendCars_21 : decode cX1_mendCars 21 = .ok (.ifCond .ne 8, 3) := by decide +kernel
theorem dX1_mendCars_24 : decode cX1_mendCars 24 = .ok (.aload_n 0, 1) := by decide +kernel
theorem dX1_mendCars_25 : decode cX1_mendCars 25 = .ok (.iload_n 1, 1) := by decide +kernel
theorem dX1_mendCars_26 : decode cX1_mendCars 26 = .ok (.invokevirtual 176, 3) := by decide +kernel
theorem dX1_mendCars_29 : decode cX1_mendCars 29 = .ok (.iinc 1 1, 3) := by decide +kernel
theorem dX1_mendCars_32 : decode cX1_mendCars 32 = .ok (.goto (-30), 3) := by decide +kernel
theorem dX1_mendCars_35 : decode cX1_mendCars 35 = .ok (.return_, 1) := by decide +kernel
set_option maxRecDepth 20000 in
theorem ggX1_mend_X2_at : GoodIn wsX1_mend wsX2_at := goodIn_r _ [10, 11, 57] (by decide +kernel) (by decide +kernel)
set_option maxRecDepth 20000 in
theorem gX1_mend_X2_at : GoodIn wsX1_mend (wsV RX1 134 RX2 yX2_at wsX2_at) := goodIn_app (goodIn_of _ (by decide +kernel)) ggX1_mend_X2_at
set_option maxRecDepth 20000 in
theorem ggX1_mend_X2_add : GoodIn wsX1_mend wsX2_add := goodIn_r _ [15, 11, 57] (by decide +kernel) (by decide +kernel)
set_option maxRecDepth 20000 in
theorem gX1_mend_X2_add : GoodIn wsX1_mend (wsV RX1 109 RX2 yX2_add wsX2_add) := goodIn_app (goodIn_of _ (by decide +kernel)) ggX1_mend_X2_add
set_option maxRecDepth 20000 in
theorem ggX1_mend_X0_renew : GoodIn wsX1_mend wsX0_renew := goodIn_r _ [20, 21, 22, 23, 24, 25, 26, 27, 9, 28, 11, 29, 7, 8, 10, 46, 47, 48, 49, 50, 51, 52, 53, 54, 57] (by decide +kernel) (by decide +kernel)
set_option maxRecDepth 20000 in
theorem gX1_mend_X0_renew : GoodIn wsX1_mend (wsV RX1 182 RX0 yX0_renew wsX0_renew) := goodIn_app (goodIn_of _ (by decide +kernel)) ggX1_mend_X0_renew
set_option maxRecDepth 20000 in
theorem ggX1_mend_X0_isPushed : GoodIn wsX1_mend wsX0_isPushed := goodIn_r _ [33, 23, 24, 29, 7, 8, 9, 10, 11, 46, 47, 48, 49, 50, 51, 52, 53, 54, 57] (by decide +kernel) (by decide +kernel)
set_option maxRecDepth 20000 in
theorem gX1_mend_X0_isPushed : GoodIn wsX1_mend (wsV RX1 185 RX0 yX0_isPushed wsX0_isPushed) := goodIn_app (goodIn_of _ (by decide +kernel)) ggX1_mend_X0_isPushed
set_option maxRecDepth 20000 in
theorem ggX1_mend_X0_findPusherFor : GoodIn wsX1_mend wsX0_findPusherFor := goodIn_r _ [37, 23, 21, 24, 38, 39, 29, 7, 8, 9, 10, 11, 25, 26, 27, 28, 46, 47, 48, 49, 50, 51, 52, 53, 54, 57] (by decide +kernel) (by decide +kernel)
set_option maxRecDepth 20000 in
theorem gX1_mend_X0_findPusherFor : GoodIn wsX1_mend (wsV RX1 188 RX0 yX0_findPusherFor wsX0_findPusherFor) := goodIn_app (goodIn_of _ (by decide +kernel)) ggX1_mend_X0_findPusherFor
theorem dX1_mend_0 : decode cX1_mend 0 = .ok (.aload_n 0, 1) := by decide +kernel
theorem dX1_mend_1 : decode cX1_mend 1 = .ok (.getfield 28, 3) := by decide +kernel
theorem dX1_mend_4 : decode cX1_mend 4 = .ok (.getfield 149, 3) := by decide +kernel
theorem dX1_mend_7 : decode cX1_mend 7 = .ok (.iload_n 1, 1) := by decide +kernel
theorem dX1_mend_8 : decode cX1_mend 8 = .ok (.invokevirtual 134, 3) := by decide +kernel
theorem dX1_mend_11 : decode cX1_mend 11 = .ok (.istore_n 2, 1) := by decide +kernel
theorem dX1_mend_12 : decode cX1_mend 12 = .ok (.aload_n 0, 1) := by decide +kernel
theorem dX1_mend_13 : decode cX1_mend 13 = .ok (.getfield 21, 3) := by decide +kernel
theorem dX1_mend_16 : decode cX1_mend 16 = .ok (.getfield 179, 3) := by decide +kernel
theorem dX1_mend_19 : decode cX1_mend 19 = .ok (.iload_n 2, 1) := by decide +kernel
theorem dX1_mend_20 : decode cX1_mend 20 = .ok (.invokevirtual 134, 3) := by decide +kernel
theorem dX1_mend_23 : decode cX1_mend 23 = .ok (.ifCond .le 36, 3) := by decide +kernel
theorem dX1_mend_26 : decode cX1_mend 26 = .ok (.aload_n 0, 1) := by decide +kernel
theorem dX1_mend_27 : decode cX1_mend 27 = .ok (.getfield 21, 3) := by decide +kernel
theorem dX1_mend_30 : decode cX1_mend 30 = .ok (.getfield 179, 3) := by decide +kernel
theorem dX1_mend_33 : decode cX1_mend 33 = .ok (.iload_n 2, 1) := by decide +kernel
theorem dX1_mend_34 : decode cX1_mend 34 = .ok (.iconst (-1), 1) := by decide +kernel
theorem dX1_mend_35 : decode cX1_mend 35 = .ok (.invokevirtual 109, 3) := by decide +kernel
theorem dX1_mend_38 : decode cX1_mend 38 = .ok (.aload_n 0, 1) := by decide +kernel
theorem dX1_mend_39 : decode cX1_mend 39 = .ok (.getfield 28, 3) := by decide +kernel
theorem dX1_mend_42 : decode cX1_mend 42 = .ok (.iload_n 1, 1) := by decide +kernel
theorem dX1_mend_43 : decode cX1_mend 43 = .ok (.invokevirtual 182, 3) := by decide +kernel
theorem dX1_mend_46 : decode cX1_mend 46 = .ok (.aload_n 0, 1) := by decide +kernel
theorem dX1_mend_47 : decode cX1_mend 47 = .ok (.dup, 1) := by decide +kernel
theorem dX1_mend_48 : decode cX1_mend 48 = .ok (.getfield 56, 3) := by decide +kernel
theorem dX1_mend_51 : decode cX1_mend 51 = .ok (.iconst 1, 1) := by decide +kernel
theorem dX1_mend_52 : decode cX1_mend 52 = .ok (.iadd, 1) := by decide +kernel
theorem dX1_mend_53 : decode cX1_mend 53 = .ok (.putfield 56, 3) := by decide +kernel
theorem dX1_mend_56 : decode cX1_mend 56 = .ok (.goto 22, 3) := by decide +kernel
theorem dX1_mend_59 : decode cX1_mend 59 = .ok (.aload_n 0, 1) := by decide +kernel
theorem dX1_mend_60 : decode cX1_mend 60 = .ok (.getfield 28, 3) := by decide +kernel
theorem dX1_mend_63 : decode cX1_mend 63 = .ok (.iload_n 1, 1) := by decide +kernel
theorem dX1_mend_64 : decode cX1_mend 64 = .ok (.invokevirtual 185, 3) := by decide +kernel
theorem dX1_mend_67 : decode cX1_mend 67 = .ok (.ifCond .ne 11, 3) := by decide +kernel
theorem dX1_mend_70 : decode cX1_mend 70 = .ok (.aload_n 0, 1) := by decide +kernel
theorem dX1_mend_71 : decode cX1_mend 71 = .ok (.getfield 28, 3) := by decide +kernel
theorem dX1_mend_74 : decode cX1_mend 74 = .ok (.iload_n 1, 1) := by decide +kernel
theorem dX1_mend_75 : decode cX1_mend 75 = .ok (.invokevirtual 188, 3) := by decide +kernel
theorem dX1_mend_78 : decode cX1_mend 78 = .ok (.return_, 1) := by decide +kernel
set_option maxRecDepth 20000 in
theorem ggX1_closeTick_X3_welcome : GoodIn wsX1_closeTick wsX3_welcome := goodIn_r _ [9, 10, 11, 12, 13, 14, 15, 16, 17, 18, 19, 20, 21, 22, 23, 24, 52, 53, 54] (by decide +kernel) (by decide +kernel)
set_option maxRecDepth 20000 in
theorem gX1_closeTick_X3_welcome : GoodIn wsX1_closeTick (wsV RX1 170 RX3 yX3_welcome wsX3_welcome) := goodIn_app (goodIn_of _ (by decide +kernel)) ggX1_closeTick_X3_welcome
set_option maxRecDepth 20000 in
theorem ggX1_closeTick_X4_recover : GoodIn wsX1_closeTick wsX4_recover := goodIn_r _ [29, 30, 31, 32, 16, 17, 18, 19, 20, 33, 34, 35, 36, 43, 44, 45, 46, 47, 48, 49, 50, 51, 54] (by decide +kernel) (by decide +kernel)
set_option maxRecDepth 20000 in
theorem gX1_closeTick_X4_recover : GoodIn wsX1_closeTick (wsV RX1 194 RX4 yX4_recover wsX4_recover) := goodIn_app (goodIn_of _ (by decide +kernel)) ggX1_closeTick_X4_recover
theorem dX1_closeTick_0 : decode cX1_closeTick 0 = .ok (.iconst 0, 1) := by decide +kernel
theorem dX1_closeTick_1 : decode cX1_closeTick 1 = .ok (.istore_n 1, 1) := by decide +kernel
theorem dX1_closeTick_2 : decode cX1_closeTick 2 = .ok (.iload_n 1, 1) := by decide +kernel
theorem dX1_closeTick_3 : decode cX1_closeTick 3 = .ok (.aload_n 0, 1) := by decide +kernel
theorem dX1_closeTick_4 : decode cX1_closeTick 4 = .ok (.getfield 12, 3) := by decide +kernel
theorem dX1_closeTick_7 : decode cX1_closeTick 7 = .ok (.getfield 191, 3) := by decide +kernel
theorem dX1_closeTick_10 : decode cX1_closeTick 10 = .ok (.if_icmp .ge 29, 3) := by decide +kernel
theorem dX1_closeTick_13 : decode cX1_closeTick 13 = .ok (.aload_n 0, 1) := by decide +kernel
theorem dX1_closeTick_14 : decode cX1_closeTick 14 = .ok (.getfield 49, 3) := by decide +kernel
theorem dX1_closeTick_17 : decode cX1_closeTick 17 = .ok (.iload_n 1, 1) := by decide +kernel
theorem dX1_closeTick_18 : decode cX1_closeTick 18 = .ok (.iconst 2, 1) := by decide +kernel
theorem dX1_closeTick_19 : decode cX1_closeTick 19 = .ok (.iadd, 1) := by decide +kernel
theorem dX1_closeTick_20 : decode cX1_closeTick 20 = .ok (.irem, 1) := by decide +kernel
theorem dX1_closeTick_21 : decode cX1_closeTick 21 = .ok (.ifCond .ne 12, 3) := by decide +kernel
theorem dX1_closeTick_24 : decode cX1_closeTick 24 = .ok (.aload_n 0, 1) := by decide +kernel
theorem dX1_closeTick_25 : decode cX1_closeTick 25 = .ok (.getfield 21, 3) := by decide +kernel
theorem dX1_closeTick_28 : decode cX1_closeTick 28 = .ok (.iload_n 1, 1) := by decide +kernel
theorem dX1_closeTick_29 : decode cX1_closeTick 29 = .ok (.iconst 1, 1) := by decide +kernel
theorem dX1_closeTick_30 : decode cX1_closeTick 30 = .ok (.invokevirtual 170, 3) := by decide +kernel
theorem dX1_closeTick_33 : decode cX1_closeTick 33 = .ok (.iinc 1 1, 3) := by decide +kernel
theorem dX1_closeTick_36 : decode cX1_closeTick 36 = .ok (.goto (-34), 3) := by decide +kernel
theorem dX1_closeTick_39 : decode cX1_closeTick 39 = .ok (.aload_n 0, 1) := by decide +kernel
theorem dX1_closeTick_40 : decode cX1_closeTick 40 = .ok (.getfield 12, 3) := by decide +kernel
theorem dX1_closeTick_43 : decode cX1_closeTick 43 = .ok (.invokevirtual 194, 3) := by decide +kernel
theorem dX1_closeTick_46 : decode cX1_closeTick 46 = .ok (.aload_n 0, 1) := by decide +kernel
theorem dX1_closeTick_47 : decode cX1_closeTick 47 = .ok (.dup, 1) := by decide +kernel
theorem dX1_closeTick_48 : decode cX1_closeTick 48 = .ok (.getfield 49, 3) := by decide +kernel
theorem dX1_closeTick_51 : decode cX1_closeTick 51 = .ok (.iconst 1, 1) := by decide +kernel
theorem dX1_closeTick_52 : decode cX1_closeTick 52 = .ok (.iadd, 1) := by decide +kernel
theorem dX1_closeTick_53 : decode cX1_closeTick 53 = .ok (.putfield 49, 3) := by decide +kernel
theorem dX1_closeTick_56 : decode cX1_closeTick 56 = .ok (.return_, 1) := by decide +kernel
set_option maxRecDepth 20000 in
theorem ggX1_spanAhead_X2_at : GoodIn wsX1_spanAhead wsX2_at := goodIn_r _ [9, 10, 35] (by decide +kernel) (by decide +kernel)
set_option maxRecDepth 20000 in
theorem gX1_spanAhead_X2_at : GoodIn wsX1_spanAhead (wsV RX1 134 RX2 yX2_at wsX2_at) := goodIn_app (goodIn_of _ (by decide +kernel)) ggX1_spanAhead_X2_at
set_option maxRecDepth 20000 in
theorem ggX1_spanAhead_X4_spans : GoodIn wsX1_spanAhead wsX4_spans := goodIn_r _ [15, 16, 36, 37, 38, 39, 40, 41, 42, 43, 44] (by decide +kernel) (by decide +kernel)
set_option maxRecDepth 20000 in
theorem gX1_spanAhead_X4_spans : GoodIn wsX1_spanAhead (wsV RX1 200 RX4 yX4_spans wsX4_spans) := goodIn_app (goodIn_of _ (by decide +kernel)) ggX1_spanAhead_X4_spans
set_option maxRecDepth 20000 in
theorem ggX1_spanAhead_X5_outside : GoodIn wsX1_spanAhead wsX5_outside := goodIn_r _ [19] (by decide +kernel) (by decide +kernel)
set_option maxRecDepth 20000 in
theorem gX1_spanAhead_X5_outside_n204 : GoodIn wsX1_spanAhead (wsX5_outside) := ggX1_spanAhead_X5_outside
theorem dX1_spanAhead_0 : decode cX1_spanAhead 0 = .ok (.aload_n 0, 1) := by decide +kernel
theorem dX1_spanAhead_1 : decode cX1_spanAhead 1 = .ok (.getfield 28, 3) := by decide +kernel
theorem dX1_spanAhead_4 : decode cX1_spanAhead 4 = .ok (.getfield 197, 3) := by decide +kernel
theorem dX1_spanAhead_7 : decode cX1_spanAhead 7 = .ok (.iload_n 1, 1) := by decide +kernel
theorem dX1_spanAhead_8 : decode cX1_spanAhead 8 = .ok (.invokevirtual 134, 3) := by decide +kernel
theorem dX1_spanAhead_11 : decode cX1_spanAhead 11 = .ok (.iconst 1, 1) := by decide +kernel
theorem dX1_spanAhead_12 : decode cX1_spanAhead 12 = .ok (.if_icmp .ne 17, 3) := by decide +kernel
theorem dX1_spanAhead_15 : decode cX1_spanAhead 15 = .ok (.aload_n 0, 1) := by decide +kernel
theorem dX1_spanAhead_16 : decode cX1_spanAhead 16 = .ok (.getfield 28, 3) := by decide +kernel
theorem dX1_spanAhead_19 : decode cX1_spanAhead 19 = .ok (.getfield 149, 3) := by decide +kernel
theorem dX1_spanAhead_22 : decode cX1_spanAhead 22 = .ok (.iload_n 1, 1) := by decide +kernel
theorem dX1_spanAhead_23 : decode cX1_spanAhead 23 = .ok (.invokevirtual 134, 3) := by decide +kernel
theorem dX1_spanAhead_26 : decode cX1_spanAhead 26 = .ok (.goto 16, 3) := by decide +kernel
theorem dX1_spanAhead_29 : decode cX1_spanAhead 29 = .ok (.aload_n 0, 1) := by decide +kernel
theorem dX1_spanAhead_30 : decode cX1_spanAhead 30 = .ok (.getfield 28, 3) := by decide +kernel
theorem dX1_spanAhead_33 : decode cX1_spanAhead 33 = .ok (.getfield 149, 3) := by decide +kernel
theorem dX1_spanAhead_36 : decode cX1_spanAhead 36 = .ok (.iload_n 1, 1) := by decide +kernel
theorem dX1_spanAhead_37 : decode cX1_spanAhead 37 = .ok (.invokevirtual 134, 3) := by decide +kernel
theorem dX1_spanAhead_40 : decode cX1_spanAhead 40 = .ok (.iconst 1, 1) := by decide +kernel
theorem dX1_spanAhead_41 : decode cX1_spanAhead 41 = .ok (.isub, 1) := by decide +kernel
theorem dX1_spanAhead_42 : decode cX1_spanAhead 42 = .ok (.istore_n 2, 1) := by decide +kernel
theorem dX1_spanAhead_43 : decode cX1_spanAhead 43 = .ok (.iload_n 2, 1) := by decide +kernel
theorem dX1_spanAhead_44 : decode cX1_spanAhead 44 = .ok (.iconst 0, 1) := by decide +kernel
theorem dX1_spanAhead_45 : decode cX1_spanAhead 45 = .ok (.aload_n 0, 1) := by decide +kernel
theorem dX1_spanAhead_46 : decode cX1_spanAhead 46 = .ok (.getfield 12, 3) := by decide +kernel
theorem dX1_spanAhead_49 : decode cX1_spanAhead 49 = .ok (.invokevirtual 200, 3) := by decide +kernel
theorem dX1_spanAhead_52 : decode cX1_spanAhead 52 = .ok (.iconst 1, 1) := by decide +kernel
theorem dX1_spanAhead_53 : decode cX1_spanAhead 53 = .ok (.isub, 1) := by decide +kernel
theorem dX1_spanAhead_54 : decode cX1_spanAhead 54 = .ok (.invokestatic 204, 3) := by decide +kernel
theorem dX1_spanAhead_57 : decode cX1_spanAhead 57 = .ok (.ifCond .eq 7, 3) := by decide +kernel
theorem dX1_spanAhead_60 : decode cX1_spanAhead 60 = .ok (.iconst (-1), 1) := by decide +kernel
theorem dX1_spanAhead_61 : decode cX1_spanAhead 61 = .ok (.goto 4, 3) := by decide +kernel
theorem dX1_spanAhead_64 : decode cX1_spanAhead 64 = .ok (.iload_n 2, 1) := by decide +kernel
theorem dX1_spanAhead_65 : decode cX1_spanAhead 65 = .ok (.ireturn, 1) := by decide +kernel
set_option maxRecDepth 20000 in
theorem ggX1_sectionAhead_X1_spanAhead : GoodIn wsX1_sectionAhead wsX1_spanAhead := goodIn_r _ [7, 8, 9, 10, 1, 11, 12, 13, 14, 15, 16, 17, 18, 19, 20, 21, 22, 23, 24, 25, 26, 27, 28, 29, 30, 31, 41, 42, 43, 44, 45, 46, 47, 48, 49, 50, 32, 33, 34, 35, 36, 37, 38, 39, 40] (by decide +kernel) (by decide +kernel)
set_option maxRecDepth 20000 in
theorem gX1_sectionAhead_X1_spanAhead : GoodIn wsX1_sectionAhead (wsV RX1 87 RX1 yX1_spanAhead wsX1_spanAhead) := goodIn_app (goodIn_of _ (by decide +kernel)) ggX1_sectionAhead_X1_spanAhead
set_option maxRecDepth 20000 in
theorem ggX1_sectionAhead_X2_at : GoodIn wsX1_sectionAhead wsX2_at := goodIn_r _ [15, 16, 50] (by decide +kernel) (by decide +kernel)
set_option maxRecDepth 20000 in
theorem gX1_sectionAhead_X2_at : GoodIn wsX1_sectionAhead (wsV RX1 134 RX2 yX2_at wsX2_at) := goodIn_app (goodIn_of _ (by decide +kernel)) ggX1_sectionAhead_X2_at
theorem dX1_sectionAhead_0 : decode cX1_sectionAhead 0 = .ok (.aload_n 0, 1) := by decide +kernel
theorem dX1_sectionAhead_1 : decode cX1_sectionAhead 1 = .ok (.iload_n 1, 1) := by decide +kernel
theorem dX1_sectionAhead_2 : decode cX1_sectionAhead 2 = .ok (.invokevirtual 87, 3) := by decide +kernel
theorem dX1_sectionAhead_5 : decode cX1_sectionAhead 5 = .ok (.istore_n 2, 1) := by decide +kernel
theorem dX1_sectionAhead_6 : decode cX1_sectionAhead 6 = .ok (.iload_n 2, 1) := by decide +kernel
theorem dX1_sectionAhead_7 : decode cX1_sectionAhead 7 = .ok (.iconst (-1), 1) := by decide +kernel
theorem dX1_sectionAhead_8 : decode cX1_sectionAhead 8 = .ok (.if_icmp .ne 7, 3) := by decide +kernel
theorem dX1_sectionAhead_11 : decode cX1_sectionAhead 11 = .ok (.iconst (-1), 1) := by decide +kernel
theorem dX1_sectionAhead_12 : decode cX1_sectionAhead 12 = .ok (.goto 14, 3) := by decide +kernel
theorem dX1_sectionAhead_15 : decode cX1_sectionAhead 15 = .ok (.aload_n 0, 1) := by decide +kernel
theorem dX1_sectionAhead_16 : decode cX1_sectionAhead 16 = .ok (.getfield 12, 3) := by decide +kernel
theorem dX1_sectionAhead_19 : decode cX1_sectionAhead 19 = .ok (.getfield 131, 3) := by decide +kernel
theorem dX1_sectionAhead_22 : decode cX1_sectionAhead 22 = .ok (.iload_n 2, 1) := by decide +kernel
theorem dX1_sectionAhead_23 : decode cX1_sectionAhead 23 = .ok (.invokevirtual 134, 3) := by decide +kernel
theorem dX1_sectionAhead_26 : decode cX1_sectionAhead 26 = .ok (.ireturn, 1) := by decide +kernel
set_option maxRecDepth 20000 in
theorem ggX1_poleAhead_X2_at : GoodIn wsX1_poleAhead wsX2_at := goodIn_r _ [8, 9, 25] (by decide +kernel) (by decide +kernel)
set_option maxRecDepth 20000 in
theorem gX1_poleAhead_X2_at : GoodIn wsX1_poleAhead (wsV RX1 134 RX2 yX2_at wsX2_at) := goodIn_app (goodIn_of _ (by decide +kernel)) ggX1_poleAhead_X2_at
theorem dX1_poleAhead_0 : decode cX1_poleAhead 0 = .ok (.aload_n 0, 1) := by decide +kernel
theorem dX1_poleAhead_1 : decode cX1_poleAhead 1 = .ok (.getfield 28, 3) := by decide +kernel
theorem dX1_poleAhead_4 : decode cX1_poleAhead 4 = .ok (.getfield 149, 3) := by decide +kernel
theorem dX1_poleAhead_7 : decode cX1_poleAhead 7 = .ok (.iload_n 1, 1) := by decide +kernel
theorem dX1_poleAhead_8 : decode cX1_poleAhead 8 = .ok (.invokevirtual 134, 3) := by decide +kernel
theorem dX1_poleAhead_11 : decode cX1_poleAhead 11 = .ok (.aload_n 0, 1) := by decide +kernel
theorem dX1_poleAhead_12 : decode cX1_poleAhead 12 = .ok (.getfield 28, 3) := by decide +kernel
theorem dX1_poleAhead_15 : decode cX1_poleAhead 15 = .ok (.getfield 197, 3) := by decide +kernel
theorem dX1_poleAhead_18 : decode cX1_poleAhead 18 = .ok (.iload_n 1, 1) := by decide +kernel
theorem dX1_poleAhead_19 : decode cX1_poleAhead 19 = .ok (.invokevirtual 134, 3) := by decide +kernel
theorem dX1_poleAhead_22 : decode cX1_poleAhead 22 = .ok (.iconst 1, 1) := by decide +kernel
theorem dX1_poleAhead_23 : decode cX1_poleAhead 23 = .ok (.if_icmp .ne 7, 3) := by decide +kernel
theorem dX1_poleAhead_26 : decode cX1_poleAhead 26 = .ok (.iconst 1, 1) := by decide +kernel
theorem dX1_poleAhead_27 : decode cX1_poleAhead 27 = .ok (.goto 4, 3) := by decide +kernel
theorem dX1_poleAhead_30 : decode cX1_poleAhead 30 = .ok (.iconst (-1), 1) := by decide +kernel
theorem dX1_poleAhead_31 : decode cX1_poleAhead 31 = .ok (.iadd, 1) := by decide +kernel
theorem dX1_poleAhead_32 : decode cX1_poleAhead 32 = .ok (.ireturn, 1) := by decide +kernel
set_option maxRecDepth 20000 in
theorem ggX1_drawOf_X1_spanAhead : GoodIn wsX1_drawOf wsX1_spanAhead := goodIn_r _ [14, 1, 4, 15, 2, 16, 17, 18, 19, 20, 21, 22, 23, 24, 25, 26, 27, 28, 29, 30, 43, 44, 45, 46, 47, 48, 58, 59, 60, 61, 62, 63, 64, 65, 66, 67, 49, 50, 51, 52, 53, 54, 55, 56, 57] (by decide +kernel) (by decide +kernel)
set_option maxRecDepth 20000 in
theorem gX1_drawOf_X1_spanAhead : GoodIn wsX1_drawOf (wsV RX1 87 RX1 yX1_spanAhead wsX1_spanAhead) := goodIn_app (goodIn_of _ (by decide +kernel)) ggX1_drawOf_X1_spanAhead
set_option maxRecDepth 20000 in
theorem ggX1_drawOf_X0_runs : GoodIn wsX1_drawOf wsX0_runs := goodIn_r _ [35, 36, 37, 17, 18, 19, 20, 21, 58, 59, 60, 61, 62, 63, 64, 65, 66, 67] (by decide +kernel) (by decide +kernel)
set_option maxRecDepth 20000 in
theorem gX1_drawOf_X0_runs : GoodIn wsX1_drawOf (wsV RX1 83 RX0 yX0_runs wsX0_runs) := goodIn_app (goodIn_of _ (by decide +kernel)) ggX1_drawOf_X0_runs
set_option maxRecDepth 20000 in
theorem ggX1_drawOf_X2_at : GoodIn wsX1_drawOf wsX2_at := goodIn_r _ [20, 21, 67] (by decide +kernel) (by decide +kernel)
set_option maxRecDepth 20000 in
theorem gX1_drawOf_X2_at : GoodIn wsX1_drawOf (wsV RX1 134 RX2 yX2_at wsX2_at) := goodIn_app (goodIn_of _ (by decide +kernel)) ggX1_drawOf_X2_at
set_option maxRecDepth 20000 in
theorem ggX1_drawOf_X0_pushes : GoodIn wsX1_drawOf wsX0_pushes := goodIn_r _ [41, 42, 37, 17, 18, 19, 20, 21, 58, 59, 60, 61, 62, 63, 64, 65, 66, 67] (by decide +kernel) (by decide +kernel)
set_option maxRecDepth 20000 in
theorem gX1_drawOf_X0_pushes : GoodIn wsX1_drawOf (wsV RX1 140 RX0 yX0_pushes wsX0_pushes) := goodIn_app (goodIn_of _ (by decide +kernel)) ggX1_drawOf_X0_pushes
theorem dX1_drawOf_0 : decode cX1_drawOf 0 = .ok (.aload_n 0, 1) := by decide +kernel
theorem dX1_drawOf_1 : decode cX1_drawOf 1 = .ok (.iload_n 1, 1) := by decide +kernel
theorem dX1_drawOf_2 : decode cX1_drawOf 2 = .ok (.invokevirtual 87, 3) := by decide +kernel
theorem dX1_drawOf_5 : decode cX1_drawOf 5 = .ok (.istore_n 2, 1) := by decide +kernel
theorem dX1_drawOf_6 : decode cX1_drawOf 6 = .ok (.iload_n 2, 1) := by decide +kernel
theorem dX1_drawOf_7 : decode cX1_drawOf 7 = .ok (.iconst (-1), 1) := by decide +kernel
theorem dX1_drawOf_8 : decode cX1_drawOf 8 = .ok (.if_icmp .eq 14, 3) := by decide +kernel
theorem dX1_drawOf_11 : decode cX1_drawOf 11 = .ok (.aload_n 0, 1) := by decide +kernel
theorem dX1_drawOf_12 : decode cX1_drawOf 12 = .ok (.getfield 28, 3) := by decide +kernel
theorem dX1_drawOf_15 : decode cX1_drawOf 15 = .ok (.iload_n 1, 1) := by decide +kernel
theorem dX1_drawOf_16 : decode cX1_drawOf 16 = .ok (.invokevirtual 83, 3) := by decide +kernel
theorem dX1_drawOf_19 : decode cX1_drawOf 19 = .ok (.ifCond .ne 5, 3) := by decide +kernel
theorem dX1_drawOf_22 : decode cX1_drawOf 22 = .ok (.iconst 0, 1) := by decide +kernel
theorem dX1_drawOf_23 : decode cX1_drawOf 23 = .ok (.ireturn, 1) := by decide +kernel
theorem dX1_drawOf_24 : decode cX1_drawOf 24 = .ok (.aload_n 0, 1) := by decide +kernel
theorem dX1_drawOf_25 : decode cX1_drawOf 25 = .ok (.getfield 12, 3) := by decide +kernel
theorem dX1_drawOf_28 : decode cX1_drawOf 28 = .ok (.getfield 208, 3) := by decide +kernel
theorem dX1_drawOf_31 : decode cX1_drawOf 31 = .ok (.iload_n 2, 1) := by decide +kernel
theorem dX1_drawOf_32 : decode cX1_drawOf 32 = .ok (.invokevirtual 134, 3) := by decide +kernel
theorem dX1_drawOf_35 : decode cX1_drawOf 35 = .ok (.istore_n 3, 1) := by decide +kernel
theorem dX1_drawOf_36 : decode cX1_drawOf 36 = .ok (.iconst 0, 1) := by decide +kernel
theorem dX1_drawOf_37 : decode cX1_drawOf 37 = .ok (.aload_n 0, 1) := by decide +kernel
theorem dX1_drawOf_38 : decode cX1_drawOf 38 = .ok (.getfield 28, 3) := by decide +kernel
theorem dX1_drawOf_41 : decode cX1_drawOf 41 = .ok (.getfield 197, 3) := by decide +kernel
theorem dX1_drawOf_44 : decode cX1_drawOf 44 = .ok (.iload_n 1, 1) := by decide +kernel
theorem dX1_drawOf_45 : decode cX1_drawOf 45 = .ok (.invokevirtual 134, 3) := by decide +kernel
theorem dX1_drawOf_48 : decode cX1_drawOf 48 = .ok (.iconst 1, 1) := by decide +kernel
theorem dX1_drawOf_49 : decode cX1_drawOf 49 = .ok (.if_icmp .ne 7, 3) := by decide +kernel
theorem dX1_drawOf_52 : decode cX1_drawOf 52 = .ok (.iload_n 3, 1) := by decide +kernel
theorem dX1_drawOf_53 : decode cX1_drawOf 53 = .ok (.goto 5, 3) := by decide +kernel
theorem dX1_drawOf_56 : decode cX1_drawOf 56 = .ok (.iload_n 3, 1) := by decide +kernel
theorem dX1_drawOf_57 : decode cX1_drawOf 57 = .ok (.ineg, 1) := by decide +kernel
theorem dX1_drawOf_58 : decode cX1_drawOf 58 = .ok (.invokestatic 211, 3) := by decide +kernel
theorem dX1_drawOf_61 : decode cX1_drawOf 61 = .ok (.istore 4, 2) := by decide +kernel
theorem dX1_drawOf_63 : decode cX1_drawOf 63 = .ok (.iconst 2, 1) := by decide +kernel
theorem dX1_drawOf_64 : decode cX1_drawOf 64 = .ok (.aload_n 0, 1) := by decide +kernel
theorem dX1_drawOf_65 : decode cX1_drawOf 65 = .ok (.getfield 28, 3) := by decide +kernel
theorem dX1_drawOf_68 : decode cX1_drawOf 68 = .ok (.getfield 152, 3) := by decide +kernel
theorem dX1_drawOf_71 : decode cX1_drawOf 71 = .ok (.iload_n 1, 1) := by decide +kernel
theorem dX1_drawOf_72 : decode cX1_drawOf 72 = .ok (.invokevirtual 134, 3) := by decide +kernel
theorem dX1_drawOf_75 : decode cX1_drawOf 75 = .ok (.bipush 10, 2) := by decide +kernel
theorem dX1_drawOf_77 : decode cX1_drawOf 77 = .ok (.idiv, 1) := by decide +kernel
theorem dX1_drawOf_78 : decode cX1_drawOf 78 = .ok (.iadd, 1) := by decide +kernel
theorem dX1_drawOf_79 : decode cX1_drawOf 79 = .ok (.iload 4, 2) := by decide +kernel
theorem dX1_drawOf_81 : decode cX1_drawOf 81 = .ok (.iadd, 1) := by decide +kernel
theorem dX1_drawOf_82 : decode cX1_drawOf 82 = .ok (.aload_n 0, 1) := by decide +kernel
theorem dX1_drawOf_83 : decode cX1_drawOf 83 = .ok (.getfield 28, 3) := by decide +kernel
theorem dX1_drawOf_86 : decode cX1_drawOf 86 = .ok (.iload_n 1, 1) := by decide +kernel
theorem dX1_drawOf_87 : decode cX1_drawOf 87 = .ok (.invokevirtual 140, 3) := by decide +kernel
theorem dX1_drawOf_90 : decode cX1_drawOf 90 = .ok (.ifCond .eq 7, 3) := by decide +kernel
theorem dX1_drawOf_93 : decode cX1_drawOf 93 = .ok (.iconst 3, 1) := by decide +kernel
theorem dX1_drawOf_94 : decode cX1_drawOf 94 = .ok (.goto 4, 3) := by decide +kernel
theorem dX1_drawOf_97 : decode cX1_drawOf 97 = .ok (.iconst 0, 1) := by decide +kernel
theorem dX1_drawOf_98 : decode cX1_drawOf 98 = .ok (.iadd, 1) := by decide +kernel
theorem dX1_drawOf_99 : decode cX1_drawOf 99 = .ok (.ireturn, 1) := by decide +kernel
set_option maxRecDepth 20000 in
theorem ggX1_drawnFrom_X1_sectionAhead : GoodIn wsX1_drawnFrom wsX1_sectionAhead := goodIn_r _ [7, 8, 9, 10, 11, 12, 6, 13, 1, 14, 15, 16, 17, 18, 19, 20, 21, 22, 23, 24, 25, 26, 27, 28, 29, 30, 53, 54, 55, 56, 57, 58, 68, 69, 70, 71, 72, 73, 74, 75, 76, 59, 60, 61, 62, 63, 64, 65, 66, 67, 77] (by decide +kernel) (by decide +kernel)
set_option maxRecDepth 20000 in
theorem gX1_drawnFrom_X1_sectionAhead : GoodIn wsX1_drawnFrom (wsV RX1 103 RX1 yX1_sectionAhead wsX1_sectionAhead) := goodIn_app (goodIn_of _ (by decide +kernel)) ggX1_drawnFrom_X1_sectionAhead
set_option maxRecDepth 20000 in
theorem ggX1_drawnFrom_X1_drawOf : GoodIn wsX1_drawnFrom wsX1_drawOf := goodIn_r _ [34, 1, 8, 35, 14, 36, 37, 38, 39, 40, 10, 11, 12, 6, 13, 15, 16, 17, 18, 19, 20, 21, 22, 23, 24, 25, 26, 27, 28, 29, 30, 41, 42, 43, 44, 45, 46, 47, 48, 49, 50, 51, 52, 53, 54, 55, 56, 57, 58, 68, 69, 70, 71, 72, 73, 74, 75, 76, 59, 60, 61, 62, 63, 64, 65, 66, 67, 77] (by decide +kernel) (by decide +kernel)
set_option maxRecDepth 20000 in
theorem gX1_drawnFrom_X1_drawOf : GoodIn wsX1_drawnFrom (wsV RX1 106 RX1 yX1_drawOf wsX1_drawOf) := goodIn_app (goodIn_of _ (by decide +kernel)) ggX1_drawnFrom_X1_drawOf
theorem dX1_drawnFrom_0 : decode cX1_drawnFrom 0 = .ok (.iconst 0, 1) := by decide +kernel
theorem dX1_drawnFrom_1 : decode cX1_drawnFrom 1 = .ok (.istore_n 2, 1) := by decide +kernel
theorem dX1_drawnFrom_2 : decode cX1_drawnFrom 2 = .ok (.iconst 0, 1) := by decide +kernel
theorem dX1_drawnFrom_3 : decode cX1_drawnFrom 3 = .ok (.istore_n 3, 1) := by decide +kernel
theorem dX1_drawnFrom_4 : decode cX1_drawnFrom 4 = .ok (.iload_n 3, 1) := by decide +kernel
theorem dX1_drawnFrom_5 : decode cX1_drawnFrom 5 = .ok (.aload_n 0, 1) := by decide +kernel
theorem dX1_drawnFrom_6 : decode cX1_drawnFrom 6 = .ok (.getfield 28, 3) := by decide +kernel
theorem dX1_drawnFrom_9 : decode cX1_drawnFrom 9 = .ok (.getfield 80, 3) := by decide +kernel
theorem dX1_drawnFrom_12 : decode cX1_drawnFrom 12 = .ok (.if_icmp .ge 30, 3) := by decide +kernel
theorem dX1_drawnFrom_15 : decode cX1_drawnFrom 15 = .ok (.iload_n 2, 1) := by decide +kernel
theorem dX1_drawnFrom_16 : decode cX1_drawnFrom 16 = .ok (.aload_n 0, 1) := by decide +kernel
theorem dX1_drawnFrom_17 : decode cX1_drawnFrom 17 = .ok (.iload_n 3, 1) := by decide +kernel
theorem dX1_drawnFrom_18 : decode cX1_drawnFrom 18 = .ok (.invokevirtual 103, 3) := by decide +kernel
theorem dX1_drawnFrom_21 : decode cX1_drawnFrom 21 = .ok (.iload_n 1, 1) := by decide +kernel
theorem dX1_drawnFrom_22 : decode cX1_drawnFrom 22 = .ok (.if_icmp .ne 11, 3) := by decide +kernel
theorem dX1_drawnFrom_25 : decode cX1_drawnFrom 25 = .ok (.aload_n 0, 1) := by decide +kernel
theorem dX1_drawnFrom_26 : decode cX1_drawnFrom 26 = .ok (.iload_n 3, 1) := by decide +kernel
theorem dX1_drawnFrom_27 : decode cX1_drawnFrom 27 = .ok (.invokevirtual 106, 3) := by decide +kernel
theorem dX1_drawnFrom_30 : decode cX1_drawnFrom 30 = .ok (.goto 4, 3) := by decide +kernel
theorem dX1_drawnFrom_33 : decode cX1_drawnFrom 33 = .ok (.iconst 0, 1) := by decide +kernel
theorem dX1_drawnFrom_34 : decode cX1_drawnFrom 34 = .ok (.iadd, 1) := by decide +kernel
theorem dX1_drawnFrom_35 : decode cX1_drawnFrom 35 = .ok (.istore_n 2, 1) := by decide +kernel
theorem dX1_drawnFrom_36 : decode cX1_drawnFrom 36 = .ok (.iinc 3 1, 3) := by decide +kernel
theorem dX1_drawnFrom_39 : decode cX1_drawnFrom 39 = .ok (.goto (-35), 3) := by decide +kernel
theorem dX1_drawnFrom_42 : decode cX1_drawnFrom 42 = .ok (.iload_n 2, 1) := by decide +kernel
theorem dX1_drawnFrom_43 : decode cX1_drawnFrom 43 = .ok (.ireturn, 1) := by decide +kernel
set_option maxRecDepth 20000 in
theorem ggX1_poleFact_X2_at : GoodIn wsX1_poleFact wsX2_at := goodIn_r _ [11, 12, 38] (by decide +kernel) (by decide +kernel)
set_option maxRecDepth 20000 in
theorem gX1_poleFact_X2_at : GoodIn wsX1_poleFact (wsV RX1 134 RX2 yX2_at wsX2_at) := goodIn_app (goodIn_of _ (by decide +kernel)) ggX1_poleFact_X2_at
set_option maxRecDepth 20000 in
theorem ggX1_poleFact_X0_carsAt : GoodIn wsX1_poleFact wsX0_carsAt := goodIn_r _ [17, 18, 19, 20, 8, 9, 10, 11, 12, 39, 40, 41, 42, 43, 44, 45, 46, 47, 38] (by decide +kernel) (by decide +kernel)
set_option maxRecDepth 20000 in
theorem gX1_poleFact_X0_carsAt : GoodIn wsX1_poleFact (wsV RX1 137 RX0 yX0_carsAt wsX0_carsAt) := goodIn_app (goodIn_of _ (by decide +kernel)) ggX1_poleFact_X0_carsAt
theorem dX1_poleFact_0 : decode cX1_poleFact 0 = .ok (.iload_n 2, 1) := by decide +kernel
theorem dX1_poleFact_1 : decode cX1_poleFact 1 = .ok (.tableswitch 60 0 2 #[27, 39, 48], 27) := by decide +kernel
theorem dX1_poleFact_28 : decode cX1_poleFact 28 = .ok (.aload_n 0, 1) := by decide +kernel
theorem dX1_poleFact_29 : decode cX1_poleFact 29 = .ok (.getfield 21, 3) := by decide +kernel
theorem dX1_poleFact_32 : decode cX1_poleFact 32 = .ok (.getfield 155, 3) := by decide +kernel
theorem dX1_poleFact_35 : decode cX1_poleFact 35 = .ok (.iload_n 1, 1) := by decide +kernel
theorem dX1_poleFact_36 : decode cX1_poleFact 36 = .ok (.invokevirtual 134, 3) := by decide +kernel
theorem dX1_poleFact_39 : decode cX1_poleFact 39 = .ok (.ireturn, 1) := by decide +kernel
theorem dX1_poleFact_40 : decode cX1_poleFact 40 = .ok (.aload_n 0, 1) := by decide +kernel
theorem dX1_poleFact_41 : decode cX1_poleFact 41 = .ok (.getfield 28, 3) := by decide +kernel
theorem dX1_poleFact_44 : decode cX1_poleFact 44 = .ok (.iload_n 1, 1) := by decide +kernel
theorem dX1_poleFact_45 : decode cX1_poleFact 45 = .ok (.invokevirtual 137, 3) := by decide +kernel
theorem dX1_poleFact_48 : decode cX1_poleFact 48 = .ok (.ireturn, 1) := by decide +kernel
theorem dX1_poleFact_49 : decode cX1_poleFact 49 = .ok (.aload_n 0, 1) := by decide +kernel
theorem dX1_poleFact_50 : decode cX1_poleFact 50 = .ok (.getfield 12, 3) := by decide +kernel
theorem dX1_poleFact_53 : decode cX1_poleFact 53 = .ok (.getfield 214, 3) := by decide +kernel
theorem dX1_poleFact_56 : decode cX1_poleFact 56 = .ok (.iload_n 1, 1) := by decide +kernel
theorem dX1_poleFact_57 : decode cX1_poleFact 57 = .ok (.invokevirtual 134, 3) := by decide +kernel
theorem dX1_poleFact_60 : decode cX1_poleFact 60 = .ok (.ireturn, 1) := by decide +kernel
theorem dX1_poleFact_61 : decode cX1_poleFact 61 = .ok (.aload_n 0, 1) := by decide +kernel
theorem dX1_poleFact_62 : decode cX1_poleFact 62 = .ok (.getfield 21, 3) := by decide +kernel
theorem dX1_poleFact_65 : decode cX1_poleFact 65 = .ok (.getfield 179, 3) := by decide +kernel
theorem dX1_poleFact_68 : decode cX1_poleFact 68 = .ok (.iload_n 1, 1) := by decide +kernel
theorem dX1_poleFact_69 : decode cX1_poleFact 69 = .ok (.invokevirtual 134, 3) := by decide +kernel
theorem dX1_poleFact_72 : decode cX1_poleFact 72 = .ok (.ireturn, 1) := by decide +kernel
set_option maxRecDepth 20000 in
theorem ggX1_sectionFact_X4_firstSpanOf : GoodIn wsX1_sectionFact wsX4_firstSpanOf := goodIn_r _ [9, 10, 11, 12, 13, 8, 14, 15, 16, 17, 18, 19, 20, 21, 73, 74, 75, 76, 77, 78, 79, 80, 81, 82] (by decide +kernel) (by decide +kernel)
set_option maxRecDepth 20000 in
theorem gX1_sectionFact_X4_firstSpanOf : GoodIn wsX1_sectionFact (wsV RX1 217 RX4 yX4_firstSpanOf wsX4_firstSpanOf) := goodIn_app (goodIn_of _ (by decide +kernel)) ggX1_sectionFact_X4_firstSpanOf
set_option maxRecDepth 20000 in
theorem ggX1_sectionFact_X2_at : GoodIn wsX1_sectionFact wsX2_at := goodIn_r _ [20, 21, 82] (by decide +kernel) (by decide +kernel)
set_option maxRecDepth 20000 in
theorem gX1_sectionFact_X2_at : GoodIn wsX1_sectionFact (wsV RX1 134 RX2 yX2_at wsX2_at) := goodIn_app (goodIn_of _ (by decide +kernel)) ggX1_sectionFact_X2_at
set_option maxRecDepth 20000 in
theorem ggX1_sectionFact_X1_drawnFrom : GoodIn wsX1_sectionFact wsX1_drawnFrom := goodIn_r _ [27, 28, 29, 30, 31, 32, 26, 33, 1, 34, 35, 36, 37, 38, 39, 40, 22, 17, 18, 19, 20, 21, 41, 12, 13, 8, 14, 15, 42, 43, 44, 45, 46, 47, 48, 49, 50, 51, 52, 53, 54, 55, 56, 57, 58, 59, 60, 61, 62, 63, 64, 65, 66, 67, 68, 69, 70, 71, 72, 83, 84, 85, 86, 87, 88, 89, 90, 91, 73, 74, 75, 76, 77, 78, 79, 80, 81, 82] (by decide +kernel) (by decide +kernel)
set_option maxRecDepth 20000 in
theorem gX1_sectionFact_X1_drawnFrom : GoodIn wsX1_sectionFact (wsV RX1 223 RX1 yX1_drawnFrom wsX1_drawnFrom) := goodIn_app (goodIn_of _ (by decide +kernel)) ggX1_sectionFact_X1_drawnFrom
theorem dX1_sectionFact_0 : decode cX1_sectionFact 0 = .ok (.iload_n 2, 1) := by decide +kernel
theorem dX1_sectionFact_1 : decode cX1_sectionFact 1 = .ok (.tableswitch 94 0 4 #[35, 44, 64, 76, 88], 35) := by decide +kernel
theorem dX1_sectionFact_36 : decode cX1_sectionFact 36 = .ok (.aload_n 0, 1) := by decide +kernel
theorem dX1_sectionFact_37 : decode cX1_sectionFact 37 = .ok (.getfield 12, 3) := by decide +kernel
theorem dX1_sectionFact_40 : decode cX1_sectionFact 40 = .ok (.iload_n 1, 1) := by decide +kernel
theorem dX1_sectionFact_41 : decode cX1_sectionFact 41 = .ok (.invokevirtual 217, 3) := by decide +kernel
theorem dX1_sectionFact_44 : decode cX1_sectionFact 44 = .ok (.ireturn, 1) := by decide +kernel
theorem dX1_sectionFact_45 : decode cX1_sectionFact 45 = .ok (.aload_n 0, 1) := by decide +kernel
theorem dX1_sectionFact_46 : decode cX1_sectionFact 46 = .ok (.getfield 12, 3) := by decide +kernel
theorem dX1_sectionFact_49 : decode cX1_sectionFact 49 = .ok (.iload_n 1, 1) := by decide +kernel
theorem dX1_sectionFact_50 : decode cX1_sectionFact 50 = .ok (.iconst 1, 1) := by decide +kernel
theorem dX1_sectionFact_51 : decode cX1_sectionFact 51 = .ok (.iadd, 1) := by decide +kernel
theorem dX1_sectionFact_52 : decode cX1_sectionFact 52 = .ok (.invokevirtual 217, 3) := by decide +kernel
theorem dX1_sectionFact_55 : decode cX1_sectionFact 55 = .ok (.aload_n 0, 1) := by decide +kernel
theorem dX1_sectionFact_56 : decode cX1_sectionFact 56 = .ok (.getfield 12, 3) := by decide +kernel
theorem dX1_sectionFact_59 : decode cX1_sectionFact 59 = .ok (.iload_n 1, 1) := by decide +kernel
theorem dX1_sectionFact_60 : decode cX1_sectionFact 60 = .ok (.invokevirtual 217, 3) := by decide +kernel
theorem dX1_sectionFact_63 : decode cX1_sectionFact 63 = .ok (.isub, 1) := by decide +kernel
theorem dX1_sectionFact_64 : decode cX1_sectionFact 64 = .ok (.ireturn, 1) := by decide +kernel
theorem dX1_sectionFact_65 : decode cX1_sectionFact 65 = .ok (.aload_n 0, 1) := by decide +kernel
theorem dX1_sectionFact_66 : decode cX1_sectionFact 66 = .ok (.getfield 12, 3) := by decide +kernel
theorem dX1_sectionFact_69 : decode cX1_sectionFact 69 = .ok (.getfield 220, 3) := by decide +kernel
theorem dX1_sectionFact_72 : decode cX1_sectionFact 72 = .ok (.iload_n 1, 1) := by decide +kernel
theorem dX1_sectionFact_73 : decode cX1_sectionFact 73 = .ok (.invokevirtual 134, 3) := by decide +kernel
theorem dX1_sectionFact_76 : decode cX1_sectionFact 76 = .ok (.ireturn, 1) := by decide +kernel
theorem dX1_sectionFact_77 : decode cX1_sectionFact 77 = .ok (.aload_n 0, 1) := by decide +kernel
theorem dX1_sectionFact_78 : decode cX1_sectionFact 78 = .ok (.getfield 12, 3) := by decide +kernel
theorem dX1_sectionFact_81 : decode cX1_sectionFact 81 = .ok (.getfield 128, 3) := by decide +kernel
theorem dX1_sectionFact_84 : decode cX1_sectionFact 84 = .ok (.iload_n 1, 1) := by decide +kernel
theorem dX1_sectionFact_85 : decode cX1_sectionFact 85 = .ok (.invokevirtual 134, 3) := by decide +kernel
theorem dX1_sectionFact_88 : decode cX1_sectionFact 88 = .ok (.ireturn, 1) := by decide +kernel
theorem dX1_sectionFact_89 : decode cX1_sectionFact 89 = .ok (.aload_n 0, 1) := by decide +kernel
theorem dX1_sectionFact_90 : decode cX1_sectionFact 90 = .ok (.iload_n 1, 1) := by decide +kernel
theorem dX1_sectionFact_91 : decode cX1_sectionFact 91 = .ok (.invokevirtual 223, 3) := by decide +kernel
theorem dX1_sectionFact_94 : decode cX1_sectionFact 94 = .ok (.ireturn, 1) := by decide +kernel
theorem dX1_sectionFact_95 : decode cX1_sectionFact 95 = .ok (.aload_n 0, 1) := by decide +kernel
theorem dX1_sectionFact_96 : decode cX1_sectionFact 96 = .ok (.getfield 12, 3) := by decide +kernel
theorem dX1_sectionFact_99 : decode cX1_sectionFact 99 = .ok (.getfield 226, 3) := by decide +kernel
theorem dX1_sectionFact_102 : decode cX1_sectionFact 102 = .ok (.iload_n 1, 1) := by decide +kernel
theorem dX1_sectionFact_103 : decode cX1_sectionFact 103 = .ok (.invokevirtual 134, 3) := by decide +kernel
theorem dX1_sectionFact_106 : decode cX1_sectionFact 106 = .ok (.ireturn, 1) := by decide +kernel
set_option maxRecDepth 20000 in
theorem ggX1_carFact_X2_at : GoodIn wsX1_carFact wsX2_at := goodIn_r _ [13, 14, 66] (by decide +kernel) (by decide +kernel)
set_option maxRecDepth 20000 in
theorem gX1_carFact_X2_at : GoodIn wsX1_carFact (wsV RX1 134 RX2 yX2_at wsX2_at) := goodIn_app (goodIn_of _ (by decide +kernel)) ggX1_carFact_X2_at
set_option maxRecDepth 20000 in
theorem ggX1_carFact_X1_drawOf : GoodIn wsX1_carFact wsX1_drawOf := goodIn_r _ [19, 1, 20, 21, 3, 22, 23, 24, 25, 4, 26, 27, 28, 18, 29, 2, 9, 10, 11, 12, 13, 14, 30, 31, 32, 33, 34, 35, 36, 37, 38, 39, 40, 41, 42, 43, 44, 45, 46, 47, 48, 49, 50, 51, 52, 53, 54, 55, 56, 67, 68, 69, 70, 71, 72, 73, 74, 75, 57, 58, 59, 60, 61, 62, 63, 64, 65, 66] (by decide +kernel) (by decide +kernel)
set_option maxRecDepth 20000 in
theorem gX1_carFact_X1_drawOf : GoodIn wsX1_carFact (wsV RX1 106 RX1 yX1_drawOf wsX1_drawOf) := goodIn_app (goodIn_of _ (by decide +kernel)) ggX1_carFact_X1_drawOf
theorem dX1_carFact_0 : decode cX1_carFact 0 = .ok (.iload_n 2, 1) := by decide +kernel
theorem dX1_carFact_1 : decode cX1_carFact 1 = .ok (.tableswitch 121 0 6 #[43, 55, 67, 79, 91, 103, 115], 43) := by decide +kernel
theorem dX1_carFact_44 : decode cX1_carFact 44 = .ok (.aload_n 0, 1) := by decide +kernel
theorem dX1_carFact_45 : decode cX1_carFact 45 = .ok (.getfield 28, 3) := by decide +kernel
theorem dX1_carFact_48 : decode cX1_carFact 48 = .ok (.getfield 149, 3) := by decide +kernel
theorem dX1_carFact_51 : decode cX1_carFact 51 = .ok (.iload_n 1, 1) := by decide +kernel
theorem dX1_carFact_52 : decode cX1_carFact 52 = .ok (.invokevirtual 134, 3) := by decide +kernel
theorem dX1_carFact_55 : decode cX1_carFact 55 = .ok (.ireturn, 1) := by decide +kernel
theorem dX1_carFact_56 : decode cX1_carFact 56 = .ok (.aload_n 0, 1) := by decide +kernel
theorem dX1_carFact_57 : decode cX1_carFact 57 = .ok (.getfield 28, 3) := by decide +kernel
theorem dX1_carFact_60 : decode cX1_carFact 60 = .ok (.getfield 197, 3) := by decide +kernel
theorem dX1_carFact_63 : decode cX1_carFact 63 = .ok (.iload_n 1, 1) := by decide +kernel
theorem dX1_carFact_64 : decode cX1_carFact 64 = .ok (.invokevirtual 134, 3) := by decide +kernel
theorem dX1_carFact_67 : decode cX1_carFact 67 = .ok (.ireturn, 1) := by decide +kernel
theorem dX1_carFact_68 : decode cX1_carFact 68 = .ok (.aload_n 0, 1) := by decide +kernel
theorem dX1_carFact_69 : decode cX1_carFact 69 = .ok (.getfield 28, 3) := by decide +kernel
theorem dX1_carFact_72 : decode cX1_carFact 72 = .ok (.getfield 152, 3) := by decide +kernel
theorem dX1_carFact_75 : decode cX1_carFact 75 = .ok (.iload_n 1, 1) := by decide +kernel
theorem dX1_carFact_76 : decode cX1_carFact 76 = .ok (.invokevirtual 134, 3) := by decide +kernel
theorem dX1_carFact_79 : decode cX1_carFact 79 = .ok (.ireturn, 1) := by decide +kernel
theorem dX1_carFact_80 : decode cX1_carFact 80 = .ok (.aload_n 0, 1) := by decide +kernel
theorem dX1_carFact_81 : decode cX1_carFact 81 = .ok (.getfield 28, 3) := by decide +kernel
theorem dX1_carFact_84 : decode cX1_carFact 84 = .ok (.getfield 167, 3) := by decide +kernel
theorem dX1_carFact_87 : decode cX1_carFact 87 = .ok (.iload_n 1, 1) := by decide +kernel
theorem dX1_carFact_88 : decode cX1_carFact 88 = .ok (.invokevirtual 134, 3) := by decide +kernel
theorem dX1_carFact_91 : decode cX1_carFact 91 = .ok (.ireturn, 1) := by decide +kernel
theorem dX1_carFact_92 : decode cX1_carFact 92 = .ok (.aload_n 0, 1) := by decide +kernel
theorem dX1_carFact_93 : decode cX1_carFact 93 = .ok (.getfield 28, 3) := by decide +kernel
theorem dX1_carFact_96 : decode cX1_carFact 96 = .ok (.getfield 229, 3) := by decide +kernel
theorem dX1_carFact_99 : decode cX1_carFact 99 = .ok (.iload_n 1, 1) := by decide +kernel
theorem dX1_carFact_100 : decode cX1_carFact 100 = .ok (.invokevirtual 134, 3) := by decide +kernel
theorem dX1_carFact_103 : decode cX1_carFact 103 = .ok (.ireturn, 1) := by decide +kernel
theorem dX1_carFact_104 : decode cX1_carFact 104 = .ok (.aload_n 0, 1) := by decide +kernel
theorem dX1_carFact_105 : decode cX1_carFact 105 = .ok (.getfield 28, 3) := by decide +kernel
theorem dX1_carFact_108 : decode cX1_carFact 108 = .ok (.getfield 232, 3) := by decide +kernel
theorem dX1_carFact_111 : decode cX1_carFact 111 = .ok (.iload_n 1, 1) := by decide +kernel
theorem dX1_carFact_112 : decode cX1_carFact 112 = .ok (.invokevirtual 134, 3) := by decide +kernel
theorem dX1_carFact_115 : decode cX1_carFact 115 = .ok (.ireturn, 1) := by decide +kernel
theorem dX1_carFact_116 : decode cX1_carFact 116 = .ok (.aload_n 0, 1) := by decide +kernel
theorem dX1_carFact_117 : decode cX1_carFact 117 = .ok (.iload_n 1, 1) := by decide +kernel
theorem dX1_carFact_118 : decode cX1_carFact 118 = .ok (.invokevirtual 106, 3) := by decide +kernel
theorem dX1_carFact_121 : decode cX1_carFact 121 = .ok (.ireturn, 1) := by decide +kernel
theorem dX1_carFact_122 : decode cX1_carFact 122 = .ok (.aload_n 0, 1) := by decide +kernel
theorem dX1_carFact_123 : decode cX1_carFact 123 = .ok (.getfield 28, 3) := by decide +kernel
theorem dX1_carFact_126 : decode cX1_carFact 126 = .ok (.getfield 235, 3) := by decide +kernel
theorem dX1_carFact_129 : decode cX1_carFact 129 = .ok (.iload_n 1, 1) := by decide +kernel
theorem dX1_carFact_130 : decode cX1_carFact 130 = .ok (.invokevirtual 134, 3) := by decide +kernel
theorem dX1_carFact_133 : decode cX1_carFact 133 = .ok (.ireturn, 1) := by decide +kernel
set_option maxRecDepth 20000 in
theorem ggX1_total_X4_deadSections : GoodIn wsX1_total wsX4_deadSections := goodIn_r _ [17, 18, 19, 20, 21, 22, 23, 24, 25, 47, 48, 49, 50, 51, 52, 53, 54, 55, 67] (by decide +kernel) (by decide +kernel)
set_option maxRecDepth 20000 in
theorem gX1_total_X4_deadSections : GoodIn wsX1_total (wsV RX1 241 RX4 yX4_deadSections wsX4_deadSections) := goodIn_app (goodIn_of _ (by decide +kernel)) ggX1_total_X4_deadSections
set_option maxRecDepth 20000 in
theorem ggX1_total_X2_sum : GoodIn wsX1_total wsX2_sum := goodIn_r _ [29, 25, 67] (by decide +kernel) (by decide +kernel)
set_option maxRecDepth 20000 in
theorem gX1_total_X2_sum : GoodIn wsX1_total (wsV RX1 244 RX2 yX2_sum wsX2_sum) := goodIn_app (goodIn_of _ (by decide +kernel)) ggX1_total_X2_sum
set_option maxRecDepth 20000 in
theorem ggX1_total_X3_allSpares : GoodIn wsX1_total wsX3_allSpares := goodIn_r _ [34, 35, 36, 37, 38, 39, 40, 21, 22, 23, 24, 25, 65, 66, 67] (by decide +kernel) (by decide +kernel)
set_option maxRecDepth 20000 in
theorem gX1_total_X3_allSpares : GoodIn wsX1_total (wsV RX1 247 RX3 yX3_allSpares wsX3_allSpares) := goodIn_app (goodIn_of _ (by decide +kernel)) ggX1_total_X3_allSpares
theorem dX1_total_0 : decode cX1_total 0 = .ok (.iload_n 1, 1) := by decide +kernel
theorem dX1_total_1 : decode cX1_total 1 = .ok (.tableswitch 135 0 9 #[55, 60, 68, 76, 84, 92, 103, 114, 125, 130], 55) := by decide +kernel
theorem dX1_total_56 : decode cX1_total 56 = .ok (.aload_n 0, 1) := by decide +kernel
theorem dX1_total_57 : decode cX1_total 57 = .ok (.getfield 49, 3) := by decide +kernel
theorem dX1_total_60 : decode cX1_total 60 = .ok (.ireturn, 1) := by decide +kernel
theorem dX1_total_61 : decode cX1_total 61 = .ok (.aload_n 0, 1) := by decide +kernel
theorem dX1_total_62 : decode cX1_total 62 = .ok (.getfield 12, 3) := by decide +kernel
theorem dX1_total_65 : decode cX1_total 65 = .ok (.getfield 191, 3) := by decide +kernel
theorem dX1_total_68 : decode cX1_total 68 = .ok (.ireturn, 1) := by decide +kernel
theorem dX1_total_69 : decode cX1_total 69 = .ok (.aload_n 0, 1) := by decide +kernel
theorem dX1_total_70 : decode cX1_total 70 = .ok (.getfield 12, 3) := by decide +kernel
theorem dX1_total_73 : decode cX1_total 73 = .ok (.getfield 238, 3) := by decide +kernel
theorem dX1_total_76 : decode cX1_total 76 = .ok (.ireturn, 1) := by decide +kernel
theorem dX1_total_77 : decode cX1_total 77 = .ok (.aload_n 0, 1) := by decide +kernel
theorem dX1_total_78 : decode cX1_total 78 = .ok (.getfield 12, 3) := by decide +kernel
theorem dX1_total_81 : decode cX1_total 81 = .ok (.invokevirtual 241, 3) := by decide +kernel
theorem dX1_total_84 : decode cX1_total 84 = .ok (.ireturn, 1) := by decide +kernel
theorem dX1_total_85 : decode cX1_total 85 = .ok (.aload_n 0, 1) := by decide +kernel
theorem dX1_total_86 : decode cX1_total 86 = .ok (.getfield 28, 3) := by decide +kernel
theorem dX1_total_89 : decode cX1_total 89 = .ok (.getfield 80, 3) := by decide +kernel
theorem dX1_total_92 : decode cX1_total 92 = .ok (.ireturn, 1) := by decide +kernel
theorem dX1_total_93 : decode cX1_total 93 = .ok (.aload_n 0, 1) := by decide +kernel
theorem dX1_total_94 : decode cX1_total 94 = .ok (.getfield 28, 3) := by decide +kernel
theorem dX1_total_97 : decode cX1_total 97 = .ok (.getfield 229, 3) := by decide +kernel
theorem dX1_total_100 : decode cX1_total 100 = .ok (.invokevirtual 244, 3) := by decide +kernel
theorem dX1_total_103 : decode cX1_total 103 = .ok (.ireturn, 1) := by decide +kernel
theorem dX1_total_104 : decode cX1_total 104 = .ok (.aload_n 0, 1) := by decide +kernel
theorem dX1_total_105 : decode cX1_total 105 = .ok (.getfield 21, 3) := by decide +kernel
theorem dX1_total_108 : decode cX1_total 108 = .ok (.getfield 155, 3) := by decide +kernel
theorem dX1_total_111 : decode cX1_total 111 = .ok (.invokevirtual 244, 3) := by decide +kernel
theorem dX1_total_114 : decode cX1_total 114 = .ok (.ireturn, 1) := by decide +kernel
theorem dX1_total_115 : decode cX1_total 115 = .ok (.aload_n 0, 1) := by decide +kernel
theorem dX1_total_116 : decode cX1_total 116 = .ok (.getfield 28, 3) := by decide +kernel
theorem dX1_total_119 : decode cX1_total 119 = .ok (.getfield 152, 3) := by decide +kernel
theorem dX1_total_122 : decode cX1_total 122 = .ok (.invokevirtual 244, 3) := by decide +kernel
theorem dX1_total_125 : decode cX1_total 125 = .ok (.ireturn, 1) := by decide +kernel
theorem dX1_total_126 : decode cX1_total 126 = .ok (.aload_n 0, 1) := by decide +kernel
theorem dX1_total_127 : decode cX1_total 127 = .ok (.getfield 53, 3) := by decide +kernel
theorem dX1_total_130 : decode cX1_total 130 = .ok (.ireturn, 1) := by decide +kernel
theorem dX1_total_131 : decode cX1_total 131 = .ok (.aload_n 0, 1) := by decide +kernel
theorem dX1_total_132 : decode cX1_total 132 = .ok (.getfield 56, 3) := by decide +kernel
theorem dX1_total_135 : decode cX1_total 135 = .ok (.ireturn, 1) := by decide +kernel
theorem dX1_total_136 : decode cX1_total 136 = .ok (.aload_n 0, 1) := by decide +kernel
theorem dX1_total_137 : decode cX1_total 137 = .ok (.getfield 21, 3) := by decide +kernel
theorem dX1_total_140 : decode cX1_total 140 = .ok (.invokevirtual 247, 3) := by decide +kernel
theorem dX1_total_143 : decode cX1_total 143 = .ok (.ireturn, 1) := by decide +kernel
