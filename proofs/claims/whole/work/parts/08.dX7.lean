set_option maxRecDepth 20000 in
theorem ggX7_init_X6_init : GoodIn wsX7_init wsX6_init := goodIn_r _ [13, 14, 15, 2, 3, 16, 5, 17, 18, 19, 20, 21, 22, 23, 24, 25, 26, 27, 28, 29, 30, 41, 42, 43, 44, 45, 46, 47, 48, 49, 50, 51, 52, 53, 54, 55, 56, 57, 58, 59] (by decide +kernel) (by decide +kernel)
set_option maxRecDepth 20000 in
theorem gX7_init_X6_init_n19 : GoodIn wsX7_init (wsX6_init) := ggX7_init_X6_init
set_option maxRecDepth 20000 in
theorem ggX7_init_X6_renew : GoodIn wsX7_init wsX6_renew := goodIn_r _ [34, 16, 20, 21, 22, 17, 18, 19, 41, 42, 43, 44, 45, 46, 47, 48, 49, 50, 51, 52, 53, 54, 55, 56, 57, 58, 59] (by decide +kernel) (by decide +kernel)
set_option maxRecDepth 20000 in
theorem gX7_init_X6_renew : GoodIn wsX7_init (wsV RX7 29 RX6 yX6_renew wsX6_renew) := goodIn_app (goodIn_of _ (by decide +kernel)) ggX7_init_X6_renew
theorem dX7_init_0 : decode cX7_init 0 = .ok (.aload_n 0, 1) := by decide +kernel
theorem dX7_init_1 : decode cX7_init 1 = .ok (.invokespecial 1, 3) := by decide +kernel
theorem dX7_init_4 : decode cX7_init 4 = .ok (.aload_n 0, 1) := by decide +kernel
theorem dX7_init_5 : decode cX7_init 5 = .ok (.bipush 8, 2) := by decide +kernel
theorem dX7_init_7 : decode cX7_init 7 = .ok (.putfield 7, 3) := by decide +kernel
theorem dX7_init_10 : decode cX7_init 10 = .ok (.aload_n 0, 1) := by decide +kernel
theorem dX7_init_11 : decode cX7_init 11 = .ok (.bipush 16, 2) := by decide +kernel
theorem dX7_init_13 : decode cX7_init 13 = .ok (.newarray .int, 2) := by decide +kernel
theorem dX7_init_15 : decode cX7_init 15 = .ok (.putfield 13, 3) := by decide +kernel
theorem dX7_init_18 : decode cX7_init 18 = .ok (.aload_n 0, 1) := by decide +kernel
theorem dX7_init_19 : decode cX7_init 19 = .ok (.new 17, 3) := by decide +kernel
theorem dX7_init_22 : decode cX7_init 22 = .ok (.dup, 1) := by decide +kernel
theorem dX7_init_23 : decode cX7_init 23 = .ok (.aload_n 0, 1) := by decide +kernel
theorem dX7_init_24 : decode cX7_init 24 = .ok (.invokespecial 19, 3) := by decide +kernel
theorem dX7_init_27 : decode cX7_init 27 = .ok (.putfield 22, 3) := by decide +kernel
theorem dX7_init_30 : decode cX7_init 30 = .ok (.aload_n 0, 1) := by decide +kernel
theorem dX7_init_31 : decode cX7_init 31 = .ok (.new 17, 3) := by decide +kernel
theorem dX7_init_34 : decode cX7_init 34 = .ok (.dup, 1) := by decide +kernel
theorem dX7_init_35 : decode cX7_init 35 = .ok (.aload_n 0, 1) := by decide +kernel
theorem dX7_init_36 : decode cX7_init 36 = .ok (.invokespecial 19, 3) := by decide +kernel
theorem dX7_init_39 : decode cX7_init 39 = .ok (.putfield 26, 3) := by decide +kernel
theorem dX7_init_42 : decode cX7_init 42 = .ok (.aload_n 0, 1) := by decide +kernel
theorem dX7_init_43 : decode cX7_init 43 = .ok (.getfield 22, 3) := by decide +kernel
theorem dX7_init_46 : decode cX7_init 46 = .ok (.invokevirtual 29, 3) := by decide +kernel
theorem dX7_init_49 : decode cX7_init 49 = .ok (.return_, 1) := by decide +kernel
theorem dX7_thrown_0 : decode cX7_thrown 0 = .ok (.aload_n 0, 1) := by decide +kernel
theorem dX7_thrown_1 : decode cX7_thrown 1 = .ok (.getfield 32, 3) := by decide +kernel
theorem dX7_thrown_4 : decode cX7_thrown 4 = .ok (.ireturn, 1) := by decide +kernel
theorem dX7_no_0 : decode cX7_no 0 = .ok (.aload_n 0, 1) := by decide +kernel
theorem dX7_no_1 : decode cX7_no 1 = .ok (.iload_n 1, 1) := by decide +kernel
theorem dX7_no_2 : decode cX7_no 2 = .ok (.putfield 32, 3) := by decide +kernel
theorem dX7_no_5 : decode cX7_no 5 = .ok (.iconst 0, 1) := by decide +kernel
theorem dX7_no_6 : decode cX7_no 6 = .ok (.ireturn, 1) := by decide +kernel
theorem dX7_isIn_0 : decode cX7_isIn 0 = .ok (.iload_n 0, 1) := by decide +kernel
theorem dX7_isIn_1 : decode cX7_isIn 1 = .ok (.iload_n 1, 1) := by decide +kernel
theorem dX7_isIn_2 : decode cX7_isIn 2 = .ok (.if_icmp .lt 12, 3) := by decide +kernel
theorem dX7_isIn_5 : decode cX7_isIn 5 = .ok (.iload_n 0, 1) := by decide +kernel
theorem dX7_isIn_6 : decode cX7_isIn 6 = .ok (.iload_n 2, 1) := by decide +kernel
theorem dX7_isIn_7 : decode cX7_isIn 7 = .ok (.if_icmp .gt 7, 3) := by decide +kernel
theorem dX7_isIn_10 : decode cX7_isIn 10 = .ok (.iconst 1, 1) := by decide +kernel
theorem dX7_isIn_11 : decode cX7_isIn 11 = .ok (.goto 4, 3) := by decide +kernel
theorem dX7_isIn_14 : decode cX7_isIn 14 = .ok (.iconst 0, 1) := by decide +kernel
theorem dX7_isIn_15 : decode cX7_isIn 15 = .ok (.ireturn, 1) := by decide +kernel
set_option maxRecDepth 20000 in
theorem ggX7_isPole_X7_isIn : GoodIn wsX7_isPole wsX7_isIn := goodIn_r _ [5] (by decide +kernel) (by decide +kernel)
set_option maxRecDepth 20000 in
theorem gX7_isPole_X7_isIn : GoodIn wsX7_isPole (va_wsS RX7 35 yX7_isIn wsX7_isIn) := goodIn_app (goodIn_of _ (by decide +kernel)) ggX7_isPole_X7_isIn
theorem dX7_isPole_0 : decode cX7_isPole 0 = .ok (.iload_n 1, 1) := by decide +kernel
theorem dX7_isPole_1 : decode cX7_isPole 1 = .ok (.iconst 0, 1) := by decide +kernel
theorem dX7_isPole_2 : decode cX7_isPole 2 = .ok (.aload_n 0, 1) := by decide +kernel
theorem dX7_isPole_3 : decode cX7_isPole 3 = .ok (.getfield 7, 3) := by decide +kernel
theorem dX7_isPole_6 : decode cX7_isPole 6 = .ok (.iconst 1, 1) := by decide +kernel
theorem dX7_isPole_7 : decode cX7_isPole 7 = .ok (.isub, 1) := by decide +kernel
theorem dX7_isPole_8 : decode cX7_isPole 8 = .ok (.invokestatic 35, 3) := by decide +kernel
theorem dX7_isPole_11 : decode cX7_isPole 11 = .ok (.ireturn, 1) := by decide +kernel
set_option maxRecDepth 20000 in
theorem ggX7_isSpan_X7_isIn : GoodIn wsX7_isSpan wsX7_isIn := goodIn_r _ [5] (by decide +kernel) (by decide +kernel)
set_option maxRecDepth 20000 in
theorem gX7_isSpan_X7_isIn : GoodIn wsX7_isSpan (va_wsS RX7 35 yX7_isIn wsX7_isIn) := goodIn_app (goodIn_of _ (by decide +kernel)) ggX7_isSpan_X7_isIn
theorem dX7_isSpan_0 : decode cX7_isSpan 0 = .ok (.iload_n 1, 1) := by decide +kernel
theorem dX7_isSpan_1 : decode cX7_isSpan 1 = .ok (.iconst 0, 1) := by decide +kernel
theorem dX7_isSpan_2 : decode cX7_isSpan 2 = .ok (.aload_n 0, 1) := by decide +kernel
theorem dX7_isSpan_3 : decode cX7_isSpan 3 = .ok (.getfield 7, 3) := by decide +kernel
theorem dX7_isSpan_6 : decode cX7_isSpan 6 = .ok (.iconst 2, 1) := by decide +kernel
theorem dX7_isSpan_7 : decode cX7_isSpan 7 = .ok (.isub, 1) := by decide +kernel
theorem dX7_isSpan_8 : decode cX7_isSpan 8 = .ok (.invokestatic 35, 3) := by decide +kernel
theorem dX7_isSpan_11 : decode cX7_isSpan 11 = .ok (.ireturn, 1) := by decide +kernel
set_option maxRecDepth 20000 in
theorem ggX7_isSection_X7_isIn : GoodIn wsX7_isSection wsX7_isIn := goodIn_r _ [5] (by decide +kernel) (by decide +kernel)
set_option maxRecDepth 20000 in
theorem gX7_isSection_X7_isIn : GoodIn wsX7_isSection (va_wsS RX7 35 yX7_isIn wsX7_isIn) := goodIn_app (goodIn_of _ (by decide +kernel)) ggX7_isSection_X7_isIn
theorem dX7_isSection_0 : decode cX7_isSection 0 = .ok (.iload_n 1, 1) := by decide +kernel
theorem dX7_isSection_1 : decode cX7_isSection 1 = .ok (.iconst 0, 1) := by decide +kernel
theorem dX7_isSection_2 : decode cX7_isSection 2 = .ok (.aload_n 0, 1) := by decide +kernel
theorem dX7_isSection_3 : decode cX7_isSection 3 = .ok (.getfield 22, 3) := by decide +kernel
theorem dX7_isSection_6 : decode cX7_isSection 6 = .ok (.getfield 39, 3) := by decide +kernel
theorem dX7_isSection_9 : decode cX7_isSection 9 = .ok (.iconst 1, 1) := by decide +kernel
theorem dX7_isSection_10 : decode cX7_isSection 10 = .ok (.isub, 1) := by decide +kernel
theorem dX7_isSection_11 : decode cX7_isSection 11 = .ok (.invokestatic 35, 3) := by decide +kernel
theorem dX7_isSection_14 : decode cX7_isSection 14 = .ok (.ireturn, 1) := by decide +kernel
set_option maxRecDepth 20000 in
theorem ggX7_build_X7_isIn : GoodIn wsX7_build wsX7_isIn := goodIn_r _ [9] (by decide +kernel) (by decide +kernel)
set_option maxRecDepth 20000 in
theorem gX7_build_X7_isIn : GoodIn wsX7_build (va_wsS RX7 35 yX7_isIn wsX7_isIn) := goodIn_app (goodIn_of _ (by decide +kernel)) ggX7_build_X7_isIn
set_option maxRecDepth 20000 in
theorem ggX7_build_X7_no : GoodIn wsX7_build wsX7_no := goodIn_r _ [13, 1, 26, 27, 28, 29, 30, 31] (by decide +kernel) (by decide +kernel)
set_option maxRecDepth 20000 in
theorem gX7_build_X7_no : GoodIn wsX7_build (wsV RX7 42 RX7 yX7_no wsX7_no) := goodIn_app (goodIn_of _ (by decide +kernel)) ggX7_build_X7_no
set_option maxRecDepth 20000 in
theorem ggX7_build_X6_renew : GoodIn wsX7_build wsX6_renew := goodIn_r _ [18, 19, 20, 21, 22, 23, 24, 25, 32, 33, 34, 35, 36, 37, 38, 39, 40, 41, 42, 43, 44, 45, 46, 47, 48, 49, 50] (by decide +kernel) (by decide +kernel)
set_option maxRecDepth 20000 in
theorem gX7_build_X6_renew : GoodIn wsX7_build (wsV RX7 29 RX6 yX6_renew wsX6_renew) := goodIn_app (goodIn_of _ (by decide +kernel)) ggX7_build_X6_renew
theorem dX7_build_0 : decode cX7_build 0 = .ok (.aload_n 0, 1) := by decide +kernel
theorem dX7_build_1 : decode cX7_build 1 = .ok (.iconst 0, 1) := by decide +kernel
theorem dX7_build_2 : decode cX7_build 2 = .ok (.putfield 32, 3) := by decide +kernel
theorem dX7_build_5 : decode cX7_build 5 = .ok (.iload_n 1, 1) := by decide +kernel
theorem dX7_build_6 : decode cX7_build 6 = .ok (.iconst 3, 1) := by decide +kernel
theorem dX7_build_7 : decode cX7_build 7 = .ok (.bipush 16, 2) := by decide +kernel
theorem dX7_build_9 : decode cX7_build 9 = .ok (.invokestatic 35, 3) := by decide +kernel
theorem dX7_build_12 : decode cX7_build 12 = .ok (.ifCond .ne 9, 3) := by decide +kernel
theorem dX7_build_15 : decode cX7_build 15 = .ok (.aload_n 0, 1) := by decide +kernel
theorem dX7_build_16 : decode cX7_build 16 = .ok (.iconst 1, 1) := by decide +kernel
theorem dX7_build_17 : decode cX7_build 17 = .ok (.invokevirtual 42, 3) := by decide +kernel
theorem dX7_build_20 : decode cX7_build 20 = .ok (.ireturn, 1) := by decide +kernel
theorem dX7_build_21 : decode cX7_build 21 = .ok (.aload_n 0, 1) := by decide +kernel
theorem dX7_build_22 : decode cX7_build 22 = .ok (.getfield 46, 3) := by decide +kernel
theorem dX7_build_25 : decode cX7_build 25 = .ok (.ifCond .le 9, 3) := by decide +kernel
theorem dX7_build_28 : decode cX7_build 28 = .ok (.aload_n 0, 1) := by decide +kernel
theorem dX7_build_29 : decode cX7_build 29 = .ok (.iconst 2, 1) := by decide +kernel
theorem dX7_build_30 : decode cX7_build 30 = .ok (.invokevirtual 42, 3) := by decide +kernel
theorem dX7_build_33 : decode cX7_build 33 = .ok (.ireturn, 1) := by decide +kernel
theorem dX7_build_34 : decode cX7_build 34 = .ok (.aload_n 0, 1) := by decide +kernel
theorem dX7_build_35 : decode cX7_build 35 = .ok (.getfield 7, 3) := by decide +kernel
theorem dX7_build_38 : decode cX7_build 38 = .ok (.istore_n 2, 1) := by decide +kernel
theorem dX7_build_39 : decode cX7_build 39 = .ok (.aload_n 0, 1) := by decide +kernel
theorem dX7_build_40 : decode cX7_build 40 = .ok (.iload_n 1, 1) := by decide +kernel
theorem dX7_build_41 : decode cX7_build 41 = .ok (.putfield 7, 3) := by decide +kernel
theorem dX7_build_44 : decode cX7_build 44 = .ok (.aload_n 0, 1) := by decide +kernel
theorem dX7_build_45 : decode cX7_build 45 = .ok (.getfield 22, 3) := by decide +kernel
theorem dX7_build_48 : decode cX7_build 48 = .ok (.invokevirtual 29, 3) := by decide +kernel
theorem dX7_build_51 : decode cX7_build 51 = .ok (.iconst 0, 1) := by decide +kernel
theorem dX7_build_52 : decode cX7_build 52 = .ok (.istore_n 3, 1) := by decide +kernel
theorem dX7_build_53 : decode cX7_build 53 = .ok (.iload_n 3, 1) := by decide +kernel
theorem dX7_build_54 : decode cX7_build 54 = .ok (.bipush 16, 2) := by decide +kernel
theorem dX7_build_56 : decode cX7_build 56 = .ok (.if_icmp .ge 16, 3) := by decide +kernel
theorem dX7_build_59 : decode cX7_build 59 = .ok (.aload_n 0, 1) := by decide +kernel
theorem dX7_build_60 : decode cX7_build 60 = .ok (.getfield 13, 3) := by decide +kernel
theorem dX7_build_63 : decode cX7_build 63 = .ok (.iload_n 3, 1) := by decide +kernel
theorem dX7_build_64 : decode cX7_build 64 = .ok (.iconst 0, 1) := by decide +kernel
theorem dX7_build_65 : decode cX7_build 65 = .ok (.iastore, 1) := by decide +kernel
theorem dX7_build_66 : decode cX7_build 66 = .ok (.iinc 3 1, 3) := by decide +kernel
theorem dX7_build_69 : decode cX7_build 69 = .ok (.goto (-16), 3) := by decide +kernel
theorem dX7_build_72 : decode cX7_build 72 = .ok (.iload_n 2, 1) := by decide +kernel
theorem dX7_build_73 : decode cX7_build 73 = .ok (.ireturn, 1) := by decide +kernel
set_option maxRecDepth 20000 in
theorem ggX7_setSlope_X7_isSpan : GoodIn wsX7_setSlope wsX7_isSpan := goodIn_r _ [7, 8, 9, 10, 6, 11, 16, 17, 18, 19, 20, 21] (by decide +kernel) (by decide +kernel)
set_option maxRecDepth 20000 in
theorem gX7_setSlope_X7_isSpan : GoodIn wsX7_setSlope (wsV RX7 49 RX7 yX7_isSpan wsX7_isSpan) := goodIn_app (goodIn_of _ (by decide +kernel)) ggX7_setSlope_X7_isSpan
set_option maxRecDepth 20000 in
theorem ggX7_setSlope_X7_no : GoodIn wsX7_setSlope wsX7_no := goodIn_r _ [15, 1, 16, 17, 18, 19, 20, 21] (by decide +kernel) (by decide +kernel)
set_option maxRecDepth 20000 in
theorem gX7_setSlope_X7_no : GoodIn wsX7_setSlope (wsV RX7 42 RX7 yX7_no wsX7_no) := goodIn_app (goodIn_of _ (by decide +kernel)) ggX7_setSlope_X7_no
set_option maxRecDepth 20000 in
theorem ggX7_setSlope_X7_isIn : GoodIn wsX7_setSlope wsX7_isIn := goodIn_r _ [11] (by decide +kernel) (by decide +kernel)
set_option maxRecDepth 20000 in
theorem gX7_setSlope_X7_isIn : GoodIn wsX7_setSlope (va_wsS RX7 35 yX7_isIn wsX7_isIn) := goodIn_app (goodIn_of _ (by decide +kernel)) ggX7_setSlope_X7_isIn
theorem dX7_setSlope_0 : decode cX7_setSlope 0 = .ok (.aload_n 0, 1) := by decide +kernel
theorem dX7_setSlope_1 : decode cX7_setSlope 1 = .ok (.iconst 0, 1) := by decide +kernel
theorem dX7_setSlope_2 : decode cX7_setSlope 2 = .ok (.putfield 32, 3) := by decide +kernel
theorem dX7_setSlope_5 : decode cX7_setSlope 5 = .ok (.aload_n 0, 1) := by decide +kernel
theorem dX7_setSlope_6 : decode cX7_setSlope 6 = .ok (.iload_n 1, 1) := by decide +kernel
theorem dX7_setSlope_7 : decode cX7_setSlope 7 = .ok (.invokevirtual 49, 3) := by decide +kernel
theorem dX7_setSlope_10 : decode cX7_setSlope 10 = .ok (.ifCond .ne 9, 3) := by decide +kernel
theorem dX7_setSlope_13 : decode cX7_setSlope 13 = .ok (.aload_n 0, 1) := by decide +kernel
theorem dX7_setSlope_14 : decode cX7_setSlope 14 = .ok (.iconst 1, 1) := by decide +kernel
theorem dX7_setSlope_15 : decode cX7_setSlope 15 = .ok (.invokevirtual 42, 3) := by decide +kernel
theorem dX7_setSlope_18 : decode cX7_setSlope 18 = .ok (.ireturn, 1) := by decide +kernel
theorem dX7_setSlope_19 : decode cX7_setSlope 19 = .ok (.iload_n 2, 1) := by decide +kernel
theorem dX7_setSlope_20 : decode cX7_setSlope 20 = .ok (.bipush (-3), 2) := by decide +kernel
theorem dX7_setSlope_22 : decode cX7_setSlope 22 = .ok (.iconst 3, 1) := by decide +kernel
theorem dX7_setSlope_23 : decode cX7_setSlope 23 = .ok (.invokestatic 35, 3) := by decide +kernel
theorem dX7_setSlope_26 : decode cX7_setSlope 26 = .ok (.ifCond .ne 9, 3) := by decide +kernel
theorem dX7_setSlope_29 : decode cX7_setSlope 29 = .ok (.aload_n 0, 1) := by decide +kernel
theorem dX7_setSlope_30 : decode cX7_setSlope 30 = .ok (.iconst 2, 1) := by decide +kernel
theorem dX7_setSlope_31 : decode cX7_setSlope 31 = .ok (.invokevirtual 42, 3) := by decide +kernel
theorem dX7_setSlope_34 : decode cX7_setSlope 34 = .ok (.ireturn, 1) := by decide +kernel
theorem dX7_setSlope_35 : decode cX7_setSlope 35 = .ok (.aload_n 0, 1) := by decide +kernel
theorem dX7_setSlope_36 : decode cX7_setSlope 36 = .ok (.getfield 13, 3) := by decide +kernel
theorem dX7_setSlope_39 : decode cX7_setSlope 39 = .ok (.iload_n 1, 1) := by decide +kernel
theorem dX7_setSlope_40 : decode cX7_setSlope 40 = .ok (.iaload, 1) := by decide +kernel
theorem dX7_setSlope_41 : decode cX7_setSlope 41 = .ok (.istore_n 3, 1) := by decide +kernel
theorem dX7_setSlope_42 : decode cX7_setSlope 42 = .ok (.aload_n 0, 1) := by decide +kernel
theorem dX7_setSlope_43 : decode cX7_setSlope 43 = .ok (.getfield 13, 3) := by decide +kernel
theorem dX7_setSlope_46 : decode cX7_setSlope 46 = .ok (.iload_n 1, 1) := by decide +kernel
theorem dX7_setSlope_47 : decode cX7_setSlope 47 = .ok (.iload_n 2, 1) := by decide +kernel
theorem dX7_setSlope_48 : decode cX7_setSlope 48 = .ok (.iastore, 1) := by decide +kernel
theorem dX7_setSlope_49 : decode cX7_setSlope 49 = .ok (.iload_n 3, 1) := by decide +kernel
theorem dX7_setSlope_50 : decode cX7_setSlope 50 = .ok (.ireturn, 1) := by decide +kernel
theorem dX7_canCut_0 : decode cX7_canCut 0 = .ok (.iload_n 1, 1) := by decide +kernel
theorem dX7_canCut_1 : decode cX7_canCut 1 = .ok (.ifCond .le 29, 3) := by decide +kernel
theorem dX7_canCut_4 : decode cX7_canCut 4 = .ok (.iload_n 1, 1) := by decide +kernel
theorem dX7_canCut_5 : decode cX7_canCut 5 = .ok (.aload_n 0, 1) := by decide +kernel
theorem dX7_canCut_6 : decode cX7_canCut 6 = .ok (.getfield 7, 3) := by decide +kernel
theorem dX7_canCut_9 : decode cX7_canCut 9 = .ok (.iconst 1, 1) := by decide +kernel
theorem dX7_canCut_10 : decode cX7_canCut 10 = .ok (.isub, 1) := by decide +kernel
theorem dX7_canCut_11 : decode cX7_canCut 11 = .ok (.if_icmp .ge 19, 3) := by decide +kernel
theorem dX7_canCut_14 : decode cX7_canCut 14 = .ok (.aload_n 0, 1) := by decide +kernel
theorem dX7_canCut_15 : decode cX7_canCut 15 = .ok (.getfield 22, 3) := by decide +kernel
theorem dX7_canCut_18 : decode cX7_canCut 18 = .ok (.getfield 53, 3) := by decide +kernel
theorem dX7_canCut_21 : decode cX7_canCut 21 = .ok (.iload_n 1, 1) := by decide +kernel
theorem dX7_canCut_22 : decode cX7_canCut 22 = .ok (.iaload, 1) := by decide +kernel
theorem dX7_canCut_23 : decode cX7_canCut 23 = .ok (.ifCond .ne 7, 3) := by decide +kernel
theorem dX7_canCut_26 : decode cX7_canCut 26 = .ok (.iconst 1, 1) := by decide +kernel
theorem dX7_canCut_27 : decode cX7_canCut 27 = .ok (.goto 4, 3) := by decide +kernel
theorem dX7_canCut_30 : decode cX7_canCut 30 = .ok (.iconst 0, 1) := by decide +kernel
theorem dX7_canCut_31 : decode cX7_canCut 31 = .ok (.ireturn, 1) := by decide +kernel
set_option maxRecDepth 20000 in
theorem ggX7_cut_X7_isPole : GoodIn wsX7_cut wsX7_isPole := goodIn_r _ [7, 8, 9, 10, 6, 11, 34, 35, 36, 37, 38, 39] (by decide +kernel) (by decide +kernel)
set_option maxRecDepth 20000 in
theorem gX7_cut_X7_isPole : GoodIn wsX7_cut (wsV RX7 56 RX7 yX7_isPole wsX7_isPole) := goodIn_app (goodIn_of _ (by decide +kernel)) ggX7_cut_X7_isPole
set_option maxRecDepth 20000 in
theorem ggX7_cut_X7_no : GoodIn wsX7_cut wsX7_no := goodIn_r _ [15, 1, 34, 35, 36, 37, 38, 39] (by decide +kernel) (by decide +kernel)
set_option maxRecDepth 20000 in
theorem gX7_cut_X7_no : GoodIn wsX7_cut (wsV RX7 42 RX7 yX7_no wsX7_no) := goodIn_app (goodIn_of _ (by decide +kernel)) ggX7_cut_X7_no
set_option maxRecDepth 20000 in
theorem ggX7_cut_X7_canCut : GoodIn wsX7_cut wsX7_canCut := goodIn_r _ [19, 8, 2, 34, 35, 36, 37, 38, 39, 40, 41, 42, 43, 44, 45, 46, 47, 48, 49, 50, 51, 52, 53, 54, 55, 56, 57, 58] (by decide +kernel) (by decide +kernel)
set_option maxRecDepth 20000 in
theorem gX7_cut_X7_canCut : GoodIn wsX7_cut (wsV RX7 59 RX7 yX7_canCut wsX7_canCut) := goodIn_app (goodIn_of _ (by decide +kernel)) ggX7_cut_X7_canCut
set_option maxRecDepth 20000 in
theorem ggX7_cut_X6_cut : GoodIn wsX7_cut wsX6_cut := goodIn_r _ [24, 25, 26, 27, 28, 29, 30, 31, 32, 23, 33, 40, 41, 42, 43, 44, 45, 46, 47, 48, 49, 50, 51, 52, 53, 54, 55, 56, 57, 58] (by decide +kernel) (by decide +kernel)
set_option maxRecDepth 20000 in
theorem gX7_cut_X6_cut : GoodIn wsX7_cut (wsV RX7 62 RX6 yX6_cut wsX6_cut) := goodIn_app (goodIn_of _ (by decide +kernel)) ggX7_cut_X6_cut
theorem dX7_cut_0 : decode cX7_cut 0 = .ok (.aload_n 0, 1) := by decide +kernel
theorem dX7_cut_1 : decode cX7_cut 1 = .ok (.iconst 0, 1) := by decide +kernel
theorem dX7_cut_2 : decode cX7_cut 2 = .ok (.putfield 32, 3) := by decide +kernel
theorem dX7_cut_5 : decode cX7_cut 5 = .ok (.aload_n 0, 1) := by decide +kernel
theorem dX7_cut_6 : decode cX7_cut 6 = .ok (.iload_n 1, 1) := by decide +kernel
theorem dX7_cut_7 : decode cX7_cut 7 = .ok (.invokevirtual 56, 3) := by decide +kernel
theorem dX7_cut_10 : decode cX7_cut 10 = .ok (.ifCond .ne 9, 3) := by decide +kernel
theorem dX7_cut_13 : decode cX7_cut 13 = .ok (.aload_n 0, 1) := by decide +kernel
theorem dX7_cut_14 : decode cX7_cut 14 = .ok (.iconst 1, 1) := by decide +kernel
theorem dX7_cut_15 : decode cX7_cut 15 = .ok (.invokevirtual 42, 3) := by decide +kernel
theorem dX7_cut_18 : decode cX7_cut 18 = .ok (.ireturn, 1) := by decide +kernel
theorem dX7_cut_19 : decode cX7_cut 19 = .ok (.aload_n 0, 1) := by decide +kernel
theorem dX7_cut_20 : decode cX7_cut 20 = .ok (.iload_n 1, 1) := by decide +kernel
theorem dX7_cut_21 : decode cX7_cut 21 = .ok (.invokevirtual 59, 3) := by decide +kernel
theorem dX7_cut_24 : decode cX7_cut 24 = .ok (.ifCond .ne 9, 3) := by decide +kernel
theorem dX7_cut_27 : decode cX7_cut 27 = .ok (.aload_n 0, 1) := by decide +kernel
theorem dX7_cut_28 : decode cX7_cut 28 = .ok (.iconst 2, 1) := by decide +kernel
theorem dX7_cut_29 : decode cX7_cut 29 = .ok (.invokevirtual 42, 3) := by decide +kernel
theorem dX7_cut_32 : decode cX7_cut 32 = .ok (.ireturn, 1) := by decide +kernel
theorem dX7_cut_33 : decode cX7_cut 33 = .ok (.aload_n 0, 1) := by decide +kernel
theorem dX7_cut_34 : decode cX7_cut 34 = .ok (.getfield 22, 3) := by decide +kernel
theorem dX7_cut_37 : decode cX7_cut 37 = .ok (.iload_n 1, 1) := by decide +kernel
theorem dX7_cut_38 : decode cX7_cut 38 = .ok (.invokevirtual 62, 3) := by decide +kernel
theorem dX7_cut_41 : decode cX7_cut 41 = .ok (.aload_n 0, 1) := by decide +kernel
theorem dX7_cut_42 : decode cX7_cut 42 = .ok (.getfield 22, 3) := by decide +kernel
theorem dX7_cut_45 : decode cX7_cut 45 = .ok (.getfield 39, 3) := by decide +kernel
theorem dX7_cut_48 : decode cX7_cut 48 = .ok (.ireturn, 1) := by decide +kernel
set_option maxRecDepth 20000 in
theorem ggX7_setBound_X7_isSection : GoodIn wsX7_setBound wsX7_isSection := goodIn_r _ [7, 2, 8, 9, 6, 10, 15, 16, 17, 18, 19, 20, 21, 22, 23, 24, 25, 26, 27, 28, 29, 30, 31, 32, 33, 34, 35, 36, 37, 38, 39] (by decide +kernel) (by decide +kernel)
set_option maxRecDepth 20000 in
theorem gX7_setBound_X7_isSection : GoodIn wsX7_setBound (wsV RX7 66 RX7 yX7_isSection wsX7_isSection) := goodIn_app (goodIn_of _ (by decide +kernel)) ggX7_setBound_X7_isSection
set_option maxRecDepth 20000 in
theorem ggX7_setBound_X7_no : GoodIn wsX7_setBound wsX7_no := goodIn_r _ [14, 1, 15, 16, 17, 18, 19, 20] (by decide +kernel) (by decide +kernel)
set_option maxRecDepth 20000 in
theorem gX7_setBound_X7_no : GoodIn wsX7_setBound (wsV RX7 42 RX7 yX7_no wsX7_no) := goodIn_app (goodIn_of _ (by decide +kernel)) ggX7_setBound_X7_no
set_option maxRecDepth 20000 in
theorem ggX7_setBound_X7_isIn : GoodIn wsX7_setBound wsX7_isIn := goodIn_r _ [10] (by decide +kernel) (by decide +kernel)
set_option maxRecDepth 20000 in
theorem gX7_setBound_X7_isIn : GoodIn wsX7_setBound (va_wsS RX7 35 yX7_isIn wsX7_isIn) := goodIn_app (goodIn_of _ (by decide +kernel)) ggX7_setBound_X7_isIn
theorem dX7_setBound_0 : decode cX7_setBound 0 = .ok (.aload_n 0, 1) := by decide +kernel
theorem dX7_setBound_1 : decode cX7_setBound 1 = .ok (.iconst 0, 1) := by decide +kernel
theorem dX7_setBound_2 : decode cX7_setBound 2 = .ok (.putfield 32, 3) := by decide +kernel
theorem dX7_setBound_5 : decode cX7_setBound 5 = .ok (.aload_n 0, 1) := by decide +kernel
theorem dX7_setBound_6 : decode cX7_setBound 6 = .ok (.iload_n 1, 1) := by decide +kernel
theorem dX7_setBound_7 : decode cX7_setBound 7 = .ok (.invokevirtual 66, 3) := by decide +kernel
theorem dX7_setBound_10 : decode cX7_setBound 10 = .ok (.ifCond .ne 9, 3) := by decide +kernel
theorem dX7_setBound_13 : decode cX7_setBound 13 = .ok (.aload_n 0, 1) := by decide +kernel
theorem dX7_setBound_14 : decode cX7_setBound 14 = .ok (.iconst 1, 1) := by decide +kernel
theorem dX7_setBound_15 : decode cX7_setBound 15 = .ok (.invokevirtual 42, 3) := by decide +kernel
theorem dX7_setBound_18 : decode cX7_setBound 18 = .ok (.ireturn, 1) := by decide +kernel
theorem dX7_setBound_19 : decode cX7_setBound 19 = .ok (.iload_n 2, 1) := by decide +kernel
theorem dX7_setBound_20 : decode cX7_setBound 20 = .ok (.iconst 1, 1) := by decide +kernel
theorem dX7_setBound_21 : decode cX7_setBound 21 = .ok (.bipush 60, 2) := by decide +kernel
theorem dX7_setBound_23 : decode cX7_setBound 23 = .ok (.invokestatic 35, 3) := by decide +kernel
theorem dX7_setBound_26 : decode cX7_setBound 26 = .ok (.ifCond .ne 9, 3) := by decide +kernel
theorem dX7_setBound_29 : decode cX7_setBound 29 = .ok (.aload_n 0, 1) := by decide +kernel
theorem dX7_setBound_30 : decode cX7_setBound 30 = .ok (.iconst 2, 1) := by decide +kernel
theorem dX7_setBound_31 : decode cX7_setBound 31 = .ok (.invokevirtual 42, 3) := by decide +kernel
theorem dX7_setBound_34 : decode cX7_setBound 34 = .ok (.ireturn, 1) := by decide +kernel
theorem dX7_setBound_35 : decode cX7_setBound 35 = .ok (.aload_n 0, 1) := by decide +kernel
theorem dX7_setBound_36 : decode cX7_setBound 36 = .ok (.getfield 22, 3) := by decide +kernel
theorem dX7_setBound_39 : decode cX7_setBound 39 = .ok (.getfield 69, 3) := by decide +kernel
theorem dX7_setBound_42 : decode cX7_setBound 42 = .ok (.iload_n 1, 1) := by decide +kernel
theorem dX7_setBound_43 : decode cX7_setBound 43 = .ok (.iaload, 1) := by decide +kernel
theorem dX7_setBound_44 : decode cX7_setBound 44 = .ok (.istore_n 3, 1) := by decide +kernel
theorem dX7_setBound_45 : decode cX7_setBound 45 = .ok (.aload_n 0, 1) := by decide +kernel
theorem dX7_setBound_46 : decode cX7_setBound 46 = .ok (.getfield 22, 3) := by decide +kernel
theorem dX7_setBound_49 : decode cX7_setBound 49 = .ok (.getfield 69, 3) := by decide +kernel
theorem dX7_setBound_52 : decode cX7_setBound 52 = .ok (.iload_n 1, 1) := by decide +kernel
theorem dX7_setBound_53 : decode cX7_setBound 53 = .ok (.iload_n 2, 1) := by decide +kernel
theorem dX7_setBound_54 : decode cX7_setBound 54 = .ok (.iastore, 1) := by decide +kernel
theorem dX7_setBound_55 : decode cX7_setBound 55 = .ok (.iload_n 3, 1) := by decide +kernel
theorem dX7_setBound_56 : decode cX7_setBound 56 = .ok (.ireturn, 1) := by decide +kernel
set_option maxRecDepth 20000 in
theorem ggX7_depot_X7_isPole : GoodIn wsX7_depot wsX7_isPole := goodIn_r _ [11, 12, 13, 14, 10, 15, 20, 21, 22, 23, 24, 25] (by decide +kernel) (by decide +kernel)
set_option maxRecDepth 20000 in
theorem gX7_depot_X7_isPole : GoodIn wsX7_depot (wsV RX7 56 RX7 yX7_isPole wsX7_isPole) := goodIn_app (goodIn_of _ (by decide +kernel)) ggX7_depot_X7_isPole
set_option maxRecDepth 20000 in
theorem ggX7_depot_X7_no : GoodIn wsX7_depot wsX7_no := goodIn_r _ [19, 1, 20, 21, 22, 23, 24, 25] (by decide +kernel) (by decide +kernel)
set_option maxRecDepth 20000 in
theorem gX7_depot_X7_no : GoodIn wsX7_depot (wsV RX7 42 RX7 yX7_no wsX7_no) := goodIn_app (goodIn_of _ (by decide +kernel)) ggX7_depot_X7_no
set_option maxRecDepth 20000 in
theorem ggX7_depot_X7_isIn : GoodIn wsX7_depot wsX7_isIn := goodIn_r _ [15] (by decide +kernel) (by decide +kernel)
set_option maxRecDepth 20000 in
theorem gX7_depot_X7_isIn : GoodIn wsX7_depot (va_wsS RX7 35 yX7_isIn wsX7_isIn) := goodIn_app (goodIn_of _ (by decide +kernel)) ggX7_depot_X7_isIn
theorem dX7_depot_0 : decode cX7_depot 0 = .ok (.aload_n 0, 1) := by decide +kernel
theorem dX7_depot_1 : decode cX7_depot 1 = .ok (.iconst 0, 1) := by decide +kernel
theorem dX7_depot_2 : decode cX7_depot 2 = .ok (.putfield 32, 3) := by decide +kernel
theorem dX7_depot_5 : decode cX7_depot 5 = .ok (.aload_n 0, 1) := by decide +kernel
theorem dX7_depot_6 : decode cX7_depot 6 = .ok (.iload_n 1, 1) := by decide +kernel
theorem dX7_depot_7 : decode cX7_depot 7 = .ok (.invokevirtual 56, 3) := by decide +kernel
theorem dX7_depot_10 : decode cX7_depot 10 = .ok (.ifCond .ne 9, 3) := by decide +kernel
theorem dX7_depot_13 : decode cX7_depot 13 = .ok (.aload_n 0, 1) := by decide +kernel
theorem dX7_depot_14 : decode cX7_depot 14 = .ok (.iconst 1, 1) := by decide +kernel
theorem dX7_depot_15 : decode cX7_depot 15 = .ok (.invokevirtual 42, 3) := by decide +kernel
theorem dX7_depot_18 : decode cX7_depot 18 = .ok (.ireturn, 1) := by decide +kernel
theorem dX7_depot_19 : decode cX7_depot 19 = .ok (.iload_n 2, 1) := by decide +kernel
theorem dX7_depot_20 : decode cX7_depot 20 = .ok (.iconst 0, 1) := by decide +kernel
theorem dX7_depot_21 : decode cX7_depot 21 = .ok (.bipush 9, 2) := by decide +kernel
theorem dX7_depot_23 : decode cX7_depot 23 = .ok (.invokestatic 35, 3) := by decide +kernel
theorem dX7_depot_26 : decode cX7_depot 26 = .ok (.ifCond .ne 9, 3) := by decide +kernel
theorem dX7_depot_29 : decode cX7_depot 29 = .ok (.aload_n 0, 1) := by decide +kernel
theorem dX7_depot_30 : decode cX7_depot 30 = .ok (.iconst 2, 1) := by decide +kernel
theorem dX7_depot_31 : decode cX7_depot 31 = .ok (.invokevirtual 42, 3) := by decide +kernel
theorem dX7_depot_34 : decode cX7_depot 34 = .ok (.ireturn, 1) := by decide +kernel
theorem dX7_depot_35 : decode cX7_depot 35 = .ok (.iconst 0, 1) := by decide +kernel
theorem dX7_depot_36 : decode cX7_depot 36 = .ok (.aload_n 0, 1) := by decide +kernel
theorem dX7_depot_37 : decode cX7_depot 37 = .ok (.getfield 22, 3) := by decide +kernel
theorem dX7_depot_40 : decode cX7_depot 40 = .ok (.getfield 72, 3) := by decide +kernel
theorem dX7_depot_43 : decode cX7_depot 43 = .ok (.iload_n 1, 1) := by decide +kernel
theorem dX7_depot_44 : decode cX7_depot 44 = .ok (.iaload, 1) := by decide +kernel
theorem dX7_depot_45 : decode cX7_depot 45 = .ok (.invokestatic 75, 3) := by decide +kernel
theorem dX7_depot_48 : decode cX7_depot 48 = .ok (.iload_n 2, 1) := by decide +kernel
theorem dX7_depot_49 : decode cX7_depot 49 = .ok (.iadd, 1) := by decide +kernel
theorem dX7_depot_50 : decode cX7_depot 50 = .ok (.istore_n 3, 1) := by decide +kernel
theorem dX7_depot_51 : decode cX7_depot 51 = .ok (.iload_n 3, 1) := by decide +kernel
theorem dX7_depot_52 : decode cX7_depot 52 = .ok (.bipush 9, 2) := by decide +kernel
theorem dX7_depot_54 : decode cX7_depot 54 = .ok (.if_icmp .le 9, 3) := by decide +kernel
theorem dX7_depot_57 : decode cX7_depot 57 = .ok (.aload_n 0, 1) := by decide +kernel
theorem dX7_depot_58 : decode cX7_depot 58 = .ok (.iconst 3, 1) := by decide +kernel
theorem dX7_depot_59 : decode cX7_depot 59 = .ok (.invokevirtual 42, 3) := by decide +kernel
theorem dX7_depot_62 : decode cX7_depot 62 = .ok (.ireturn, 1) := by decide +kernel
theorem dX7_depot_63 : decode cX7_depot 63 = .ok (.aload_n 0, 1) := by decide +kernel
theorem dX7_depot_64 : decode cX7_depot 64 = .ok (.getfield 22, 3) := by decide +kernel
theorem dX7_depot_67 : decode cX7_depot 67 = .ok (.getfield 72, 3) := by decide +kernel
theorem dX7_depot_70 : decode cX7_depot 70 = .ok (.iload_n 1, 1) := by decide +kernel
theorem dX7_depot_71 : decode cX7_depot 71 = .ok (.iload_n 3, 1) := by decide +kernel
theorem dX7_depot_72 : decode cX7_depot 72 = .ok (.iastore, 1) := by decide +kernel
theorem dX7_depot_73 : decode cX7_depot 73 = .ok (.iload_n 3, 1) := by decide +kernel
theorem dX7_depot_74 : decode cX7_depot 74 = .ok (.ireturn, 1) := by decide +kernel
set_option maxRecDepth 20000 in
theorem ggX7_come_X7_isPole : GoodIn wsX7_come wsX7_isPole := goodIn_r _ [11, 12, 13, 14, 10, 15, 20, 21, 22, 23, 24, 25] (by decide +kernel) (by decide +kernel)
set_option maxRecDepth 20000 in
theorem gX7_come_X7_isPole : GoodIn wsX7_come (wsV RX7 56 RX7 yX7_isPole wsX7_isPole) := goodIn_app (goodIn_of _ (by decide +kernel)) ggX7_come_X7_isPole
set_option maxRecDepth 20000 in
theorem ggX7_come_X7_no : GoodIn wsX7_come wsX7_no := goodIn_r _ [19, 1, 20, 21, 22, 23, 24, 25] (by decide +kernel) (by decide +kernel)
set_option maxRecDepth 20000 in
theorem gX7_come_X7_no : GoodIn wsX7_come (wsV RX7 42 RX7 yX7_no wsX7_no) := goodIn_app (goodIn_of _ (by decide +kernel)) ggX7_come_X7_no
set_option maxRecDepth 20000 in
theorem ggX7_come_X7_isIn : GoodIn wsX7_come wsX7_isIn := goodIn_r _ [15] (by decide +kernel) (by decide +kernel)
set_option maxRecDepth 20000 in
theorem gX7_come_X7_isIn : GoodIn wsX7_come (va_wsS RX7 35 yX7_isIn wsX7_isIn) := goodIn_app (goodIn_of _ (by decide +kernel)) ggX7_come_X7_isIn
theorem dX7_come_0 : decode cX7_come 0 = .ok (.aload_n 0, 1) := by decide +kernel
theorem dX7_come_1 : decode cX7_come 1 = .ok (.iconst 0, 1) := by decide +kernel
theorem dX7_come_2 : decode cX7_come 2 = .ok (.putfield 32, 3) := by decide +kernel
theorem dX7_come_5 : decode cX7_come 5 = .ok (.aload_n 0, 1) := by decide +kernel
theorem dX7_come_6 : decode cX7_come 6 = .ok (.iload_n 1, 1) := by decide +kernel
theorem dX7_come_7 : decode cX7_come 7 = .ok (.invokevirtual 56, 3) := by decide +kernel
theorem dX7_come_10 : decode cX7_come 10 = .ok (.ifCond .ne 9, 3) := by decide +kernel
theorem dX7_come_13 : decode cX7_come 13 = .ok (.aload_n 0, 1) := by decide +kernel
theorem dX7_come_14 : decode cX7_come 14 = .ok (.iconst 1, 1) := by decide +kernel
theorem dX7_come_15 : decode cX7_come 15 = .ok (.invokevirtual 42, 3) := by decide +kernel
theorem dX7_come_18 : decode cX7_come 18 = .ok (.ireturn, 1) := by decide +kernel
theorem dX7_come_19 : decode cX7_come 19 = .ok (.iload_n 2, 1) := by decide +kernel
theorem dX7_come_20 : decode cX7_come 20 = .ok (.iconst 1, 1) := by decide +kernel
theorem dX7_come_21 : decode cX7_come 21 = .ok (.bipush 99, 2) := by decide +kernel
theorem dX7_come_23 : decode cX7_come 23 = .ok (.invokestatic 35, 3) := by decide +kernel
theorem dX7_come_26 : decode cX7_come 26 = .ok (.ifCond .ne 9, 3) := by decide +kernel
theorem dX7_come_29 : decode cX7_come 29 = .ok (.aload_n 0, 1) := by decide +kernel
theorem dX7_come_30 : decode cX7_come 30 = .ok (.iconst 2, 1) := by decide +kernel
theorem dX7_come_31 : decode cX7_come 31 = .ok (.invokevirtual 42, 3) := by decide +kernel
theorem dX7_come_34 : decode cX7_come 34 = .ok (.ireturn, 1) := by decide +kernel
theorem dX7_come_35 : decode cX7_come 35 = .ok (.aload_n 0, 1) := by decide +kernel
theorem dX7_come_36 : decode cX7_come 36 = .ok (.getfield 22, 3) := by decide +kernel
theorem dX7_come_39 : decode cX7_come 39 = .ok (.getfield 81, 3) := by decide +kernel
theorem dX7_come_42 : decode cX7_come 42 = .ok (.iload_n 1, 1) := by decide +kernel
theorem dX7_come_43 : decode cX7_come 43 = .ok (.bipush 99, 2) := by decide +kernel
theorem dX7_come_45 : decode cX7_come 45 = .ok (.aload_n 0, 1) := by decide +kernel
theorem dX7_come_46 : decode cX7_come 46 = .ok (.getfield 22, 3) := by decide +kernel
theorem dX7_come_49 : decode cX7_come 49 = .ok (.getfield 81, 3) := by decide +kernel
theorem dX7_come_52 : decode cX7_come 52 = .ok (.iload_n 1, 1) := by decide +kernel
theorem dX7_come_53 : decode cX7_come 53 = .ok (.iaload, 1) := by decide +kernel
theorem dX7_come_54 : decode cX7_come 54 = .ok (.iload_n 2, 1) := by decide +kernel
theorem dX7_come_55 : decode cX7_come 55 = .ok (.iadd, 1) := by decide +kernel
theorem dX7_come_56 : decode cX7_come 56 = .ok (.invokestatic 84, 3) := by decide +kernel
theorem dX7_come_59 : decode cX7_come 59 = .ok (.iastore, 1) := by decide +kernel
theorem dX7_come_60 : decode cX7_come 60 = .ok (.aload_n 0, 1) := by decide +kernel
theorem dX7_come_61 : decode cX7_come 61 = .ok (.getfield 22, 3) := by decide +kernel
theorem dX7_come_64 : decode cX7_come 64 = .ok (.getfield 81, 3) := by decide +kernel
theorem dX7_come_67 : decode cX7_come 67 = .ok (.iload_n 1, 1) := by decide +kernel
theorem dX7_come_68 : decode cX7_come 68 = .ok (.iaload, 1) := by decide +kernel
theorem dX7_come_69 : decode cX7_come 69 = .ok (.ireturn, 1) := by decide +kernel
set_option maxRecDepth 20000 in
theorem ggX7_put_X7_isPole : GoodIn wsX7_put wsX7_isPole := goodIn_r _ [8, 9, 10, 11, 7, 12, 24, 25, 26, 27, 28, 29] (by decide +kernel) (by decide +kernel)
set_option maxRecDepth 20000 in
theorem gX7_put_X7_isPole : GoodIn wsX7_put (wsV RX7 56 RX7 yX7_isPole wsX7_isPole) := goodIn_app (goodIn_of _ (by decide +kernel)) ggX7_put_X7_isPole
set_option maxRecDepth 20000 in
theorem ggX7_put_X7_no : GoodIn wsX7_put wsX7_no := goodIn_r _ [16, 1, 24, 25, 26, 27, 28, 29] (by decide +kernel) (by decide +kernel)
set_option maxRecDepth 20000 in
theorem gX7_put_X7_no : GoodIn wsX7_put (wsV RX7 42 RX7 yX7_no wsX7_no) := goodIn_app (goodIn_of _ (by decide +kernel)) ggX7_put_X7_no
set_option maxRecDepth 20000 in
theorem ggX7_put_X7_isIn : GoodIn wsX7_put wsX7_isIn := goodIn_r _ [12] (by decide +kernel) (by decide +kernel)
set_option maxRecDepth 20000 in
theorem gX7_put_X7_isIn : GoodIn wsX7_put (va_wsS RX7 35 yX7_isIn wsX7_isIn) := goodIn_app (goodIn_of _ (by decide +kernel)) ggX7_put_X7_isIn
set_option maxRecDepth 20000 in
theorem ggX7_put_X6_carsAt : GoodIn wsX7_put wsX6_carsAt := goodIn_r _ [21, 22, 23, 30, 31, 32, 33, 34, 35, 36, 37, 38, 39, 40, 41, 42, 43, 44, 45, 46, 47, 48, 24, 25, 26, 27, 28, 29] (by decide +kernel) (by decide +kernel)
set_option maxRecDepth 20000 in
theorem gX7_put_X6_carsAt : GoodIn wsX7_put (wsV RX7 87 RX6 yX6_carsAt wsX6_carsAt) := goodIn_app (goodIn_of _ (by decide +kernel)) ggX7_put_X6_carsAt
theorem dX7_put_0 : decode cX7_put 0 = .ok (.aload_n 0, 1) := by decide +kernel
theorem dX7_put_1 : decode cX7_put 1 = .ok (.iconst 0, 1) := by decide +kernel
theorem dX7_put_2 : decode cX7_put 2 = .ok (.putfield 32, 3) := by decide +kernel
theorem dX7_put_5 : decode cX7_put 5 = .ok (.aload_n 0, 1) := by decide +kernel
theorem dX7_put_6 : decode cX7_put 6 = .ok (.iload_n 1, 1) := by decide +kernel
theorem dX7_put_7 : decode cX7_put 7 = .ok (.invokevirtual 56, 3) := by decide +kernel
theorem dX7_put_10 : decode cX7_put 10 = .ok (.ifCond .ne 9, 3) := by decide +kernel
theorem dX7_put_13 : decode cX7_put 13 = .ok (.aload_n 0, 1) := by decide +kernel
theorem dX7_put_14 : decode cX7_put 14 = .ok (.iconst 1, 1) := by decide +kernel
theorem dX7_put_15 : decode cX7_put 15 = .ok (.invokevirtual 42, 3) := by decide +kernel
theorem dX7_put_18 : decode cX7_put 18 = .ok (.ireturn, 1) := by decide +kernel
theorem dX7_put_19 : decode cX7_put 19 = .ok (.iload_n 3, 1) := by decide +kernel
theorem dX7_put_20 : decode cX7_put 20 = .ok (.iconst 0, 1) := by decide +kernel
theorem dX7_put_21 : decode cX7_put 21 = .ok (.bipush 99, 2) := by decide +kernel
theorem dX7_put_23 : decode cX7_put 23 = .ok (.invokestatic 35, 3) := by decide +kernel
theorem dX7_put_26 : decode cX7_put 26 = .ok (.ifCond .ne 9, 3) := by decide +kernel
theorem dX7_put_29 : decode cX7_put 29 = .ok (.aload_n 0, 1) := by decide +kernel
theorem dX7_put_30 : decode cX7_put 30 = .ok (.iconst 2, 1) := by decide +kernel
theorem dX7_put_31 : decode cX7_put 31 = .ok (.invokevirtual 42, 3) := by decide +kernel
theorem dX7_put_34 : decode cX7_put 34 = .ok (.ireturn, 1) := by decide +kernel
theorem dX7_put_35 : decode cX7_put 35 = .ok (.aload_n 0, 1) := by decide +kernel
theorem dX7_put_36 : decode cX7_put 36 = .ok (.getfield 46, 3) := by decide +kernel
theorem dX7_put_39 : decode cX7_put 39 = .ok (.bipush 6, 2) := by decide +kernel
theorem dX7_put_41 : decode cX7_put 41 = .ok (.if_icmp .eq 15, 3) := by decide +kernel
theorem dX7_put_44 : decode cX7_put 44 = .ok (.aload_n 0, 1) := by decide +kernel
theorem dX7_put_45 : decode cX7_put 45 = .ok (.getfield 22, 3) := by decide +kernel
theorem dX7_put_48 : decode cX7_put 48 = .ok (.iload_n 1, 1) := by decide +kernel
theorem dX7_put_49 : decode cX7_put 49 = .ok (.invokevirtual 87, 3) := by decide +kernel
theorem dX7_put_52 : decode cX7_put 52 = .ok (.iconst 2, 1) := by decide +kernel
theorem dX7_put_53 : decode cX7_put 53 = .ok (.if_icmp .ne 9, 3) := by decide +kernel
theorem dX7_put_56 : decode cX7_put 56 = .ok (.aload_n 0, 1) := by decide +kernel
theorem dX7_put_57 : decode cX7_put 57 = .ok (.iconst 3, 1) := by decide +kernel
theorem dX7_put_58 : decode cX7_put 58 = .ok (.invokevirtual 42, 3) := by decide +kernel
theorem dX7_put_61 : decode cX7_put 61 = .ok (.ireturn, 1) := by decide +kernel
theorem dX7_put_62 : decode cX7_put 62 = .ok (.aload_n 0, 1) := by decide +kernel
theorem dX7_put_63 : decode cX7_put 63 = .ok (.getfield 22, 3) := by decide +kernel
theorem dX7_put_66 : decode cX7_put 66 = .ok (.getfield 90, 3) := by decide +kernel
theorem dX7_put_69 : decode cX7_put 69 = .ok (.aload_n 0, 1) := by decide +kernel
theorem dX7_put_70 : decode cX7_put 70 = .ok (.getfield 46, 3) := by decide +kernel
theorem dX7_put_73 : decode cX7_put 73 = .ok (.iload_n 1, 1) := by decide +kernel
theorem dX7_put_74 : decode cX7_put 74 = .ok (.iastore, 1) := by decide +kernel
theorem dX7_put_75 : decode cX7_put 75 = .ok (.aload_n 0, 1) := by decide +kernel
theorem dX7_put_76 : decode cX7_put 76 = .ok (.getfield 22, 3) := by decide +kernel
theorem dX7_put_79 : decode cX7_put 79 = .ok (.getfield 93, 3) := by decide +kernel
theorem dX7_put_82 : decode cX7_put 82 = .ok (.aload_n 0, 1) := by decide +kernel
theorem dX7_put_83 : decode cX7_put 83 = .ok (.getfield 46, 3) := by decide +kernel
theorem dX7_put_86 : decode cX7_put 86 = .ok (.iload_n 2, 1) := by decide +kernel
theorem dX7_put_87 : decode cX7_put 87 = .ok (.ifCond .eq 7, 3) := by decide +kernel
theorem dX7_put_90 : decode cX7_put 90 = .ok (.iconst 1, 1) := by decide +kernel
theorem dX7_put_91 : decode cX7_put 91 = .ok (.goto 4, 3) := by decide +kernel
theorem dX7_put_94 : decode cX7_put 94 = .ok (.iconst (-1), 1) := by decide +kernel
theorem dX7_put_95 : decode cX7_put 95 = .ok (.iastore, 1) := by decide +kernel
theorem dX7_put_96 : decode cX7_put 96 = .ok (.aload_n 0, 1) := by decide +kernel
theorem dX7_put_97 : decode cX7_put 97 = .ok (.getfield 22, 3) := by decide +kernel
theorem dX7_put_100 : decode cX7_put 100 = .ok (.getfield 96, 3) := by decide +kernel
theorem dX7_put_103 : decode cX7_put 103 = .ok (.aload_n 0, 1) := by decide +kernel
theorem dX7_put_104 : decode cX7_put 104 = .ok (.getfield 46, 3) := by decide +kernel
theorem dX7_put_107 : decode cX7_put 107 = .ok (.iload_n 3, 1) := by decide +kernel
theorem dX7_put_108 : decode cX7_put 108 = .ok (.iastore, 1) := by decide +kernel
theorem dX7_put_109 : decode cX7_put 109 = .ok (.aload_n 0, 1) := by decide +kernel
theorem dX7_put_110 : decode cX7_put 110 = .ok (.getfield 22, 3) := by decide +kernel
theorem dX7_put_113 : decode cX7_put 113 = .ok (.getfield 99, 3) := by decide +kernel
theorem dX7_put_116 : decode cX7_put 116 = .ok (.aload_n 0, 1) := by decide +kernel
theorem dX7_put_117 : decode cX7_put 117 = .ok (.getfield 46, 3) := by decide +kernel
theorem dX7_put_120 : decode cX7_put 120 = .ok (.iconst (-1), 1) := by decide +kernel
theorem dX7_put_121 : decode cX7_put 121 = .ok (.iastore, 1) := by decide +kernel
theorem dX7_put_122 : decode cX7_put 122 = .ok (.aload_n 0, 1) := by decide +kernel
theorem dX7_put_123 : decode cX7_put 123 = .ok (.dup, 1) := by decide +kernel
theorem dX7_put_124 : decode cX7_put 124 = .ok (.getfield 46, 3) := by decide +kernel
theorem dX7_put_127 : decode cX7_put 127 = .ok (.iconst 1, 1) := by decide +kernel
theorem dX7_put_128 : decode cX7_put 128 = .ok (.iadd, 1) := by decide +kernel
theorem dX7_put_129 : decode cX7_put 129 = .ok (.putfield 46, 3) := by decide +kernel
theorem dX7_put_132 : decode cX7_put 132 = .ok (.aload_n 0, 1) := by decide +kernel
theorem dX7_put_133 : decode cX7_put 133 = .ok (.getfield 46, 3) := by decide +kernel
theorem dX7_put_136 : decode cX7_put 136 = .ok (.iconst 1, 1) := by decide +kernel
theorem dX7_put_137 : decode cX7_put 137 = .ok (.isub, 1) := by decide +kernel
theorem dX7_put_138 : decode cX7_put 138 = .ok (.ireturn, 1) := by decide +kernel
set_option maxRecDepth 20000 in
theorem ggX7_poleTold_X6_carsAt : GoodIn wsX7_poleTold wsX6_carsAt := goodIn_r _ [6, 7, 8, 15, 16, 17, 18, 19, 20, 21, 22, 23, 24, 25, 26, 27, 28, 29, 30, 31, 32, 33, 9, 10, 11, 12, 13, 14] (by decide +kernel) (by decide +kernel)
set_option maxRecDepth 20000 in
theorem gX7_poleTold_X6_carsAt : GoodIn wsX7_poleTold (wsV RX7 87 RX6 yX6_carsAt wsX6_carsAt) := goodIn_app (goodIn_of _ (by decide +kernel)) ggX7_poleTold_X6_carsAt
theorem dX7_poleTold_0 : decode cX7_poleTold 0 = .ok (.iload_n 2, 1) := by decide +kernel
theorem dX7_poleTold_1 : decode cX7_poleTold 1 = .ok (.ifCond .ne 15, 3) := by decide +kernel
theorem dX7_poleTold_4 : decode cX7_poleTold 4 = .ok (.aload_n 0, 1) := by decide +kernel
theorem dX7_poleTold_5 : decode cX7_poleTold 5 = .ok (.getfield 22, 3) := by decide +kernel
theorem dX7_poleTold_8 : decode cX7_poleTold 8 = .ok (.getfield 81, 3) := by decide +kernel
theorem dX7_poleTold_11 : decode cX7_poleTold 11 = .ok (.iload_n 1, 1) := by decide +kernel
theorem dX7_poleTold_12 : decode cX7_poleTold 12 = .ok (.iaload, 1) := by decide +kernel
theorem dX7_poleTold_13 : decode cX7_poleTold 13 = .ok (.goto 45, 3) := by decide +kernel
theorem dX7_poleTold_16 : decode cX7_poleTold 16 = .ok (.iload_n 2, 1) := by decide +kernel
theorem dX7_poleTold_17 : decode cX7_poleTold 17 = .ok (.iconst 1, 1) := by decide +kernel
theorem dX7_poleTold_18 : decode cX7_poleTold 18 = .ok (.if_icmp .ne 14, 3) := by decide +kernel
theorem dX7_poleTold_21 : decode cX7_poleTold 21 = .ok (.aload_n 0, 1) := by decide +kernel
theorem dX7_poleTold_22 : decode cX7_poleTold 22 = .ok (.getfield 22, 3) := by decide +kernel
theorem dX7_poleTold_25 : decode cX7_poleTold 25 = .ok (.iload_n 1, 1) := by decide +kernel
theorem dX7_poleTold_26 : decode cX7_poleTold 26 = .ok (.invokevirtual 87, 3) := by decide +kernel
theorem dX7_poleTold_29 : decode cX7_poleTold 29 = .ok (.goto 29, 3) := by decide +kernel
theorem dX7_poleTold_32 : decode cX7_poleTold 32 = .ok (.iload_n 2, 1) := by decide +kernel
theorem dX7_poleTold_33 : decode cX7_poleTold 33 = .ok (.iconst 2, 1) := by decide +kernel
theorem dX7_poleTold_34 : decode cX7_poleTold 34 = .ok (.if_icmp .ne 15, 3) := by decide +kernel
theorem dX7_poleTold_37 : decode cX7_poleTold 37 = .ok (.aload_n 0, 1) := by decide +kernel
theorem dX7_poleTold_38 : decode cX7_poleTold 38 = .ok (.getfield 22, 3) := by decide +kernel
theorem dX7_poleTold_41 : decode cX7_poleTold 41 = .ok (.getfield 53, 3) := by decide +kernel
theorem dX7_poleTold_44 : decode cX7_poleTold 44 = .ok (.iload_n 1, 1) := by decide +kernel
theorem dX7_poleTold_45 : decode cX7_poleTold 45 = .ok (.iaload, 1) := by decide +kernel
theorem dX7_poleTold_46 : decode cX7_poleTold 46 = .ok (.goto 12, 3) := by decide +kernel
theorem dX7_poleTold_49 : decode cX7_poleTold 49 = .ok (.aload_n 0, 1) := by decide +kernel
theorem dX7_poleTold_50 : decode cX7_poleTold 50 = .ok (.getfield 22, 3) := by decide +kernel
theorem dX7_poleTold_53 : decode cX7_poleTold 53 = .ok (.getfield 72, 3) := by decide +kernel
theorem dX7_poleTold_56 : decode cX7_poleTold 56 = .ok (.iload_n 1, 1) := by decide +kernel
theorem dX7_poleTold_57 : decode cX7_poleTold 57 = .ok (.iaload, 1) := by decide +kernel
theorem dX7_poleTold_58 : decode cX7_poleTold 58 = .ok (.ireturn, 1) := by decide +kernel
set_option maxRecDepth 20000 in
theorem ggX7_pole_X7_isPole : GoodIn wsX7_pole wsX7_isPole := goodIn_r _ [6, 7, 8, 9, 5, 10, 27, 28, 29, 30, 31, 32] (by decide +kernel) (by decide +kernel)
set_option maxRecDepth 20000 in
theorem gX7_pole_X7_isPole : GoodIn wsX7_pole (wsV RX7 56 RX7 yX7_isPole wsX7_isPole) := goodIn_app (goodIn_of _ (by decide +kernel)) ggX7_pole_X7_isPole
set_option maxRecDepth 20000 in
theorem ggX7_pole_X7_isIn : GoodIn wsX7_pole wsX7_isIn := goodIn_r _ [10] (by decide +kernel) (by decide +kernel)
set_option maxRecDepth 20000 in
theorem gX7_pole_X7_isIn : GoodIn wsX7_pole (va_wsS RX7 35 yX7_isIn wsX7_isIn) := goodIn_app (goodIn_of _ (by decide +kernel)) ggX7_pole_X7_isIn
set_option maxRecDepth 20000 in
theorem ggX7_pole_X7_poleTold : GoodIn wsX7_pole wsX7_poleTold := goodIn_r _ [14, 15, 16, 17, 18, 19, 20, 21, 22, 27, 28, 29, 30, 31, 32, 33, 34, 35, 36, 37, 38, 39, 40, 41, 42, 43, 44, 45, 46, 47, 48, 49, 50, 51] (by decide +kernel) (by decide +kernel)
set_option maxRecDepth 20000 in
theorem gX7_pole_X7_poleTold : GoodIn wsX7_pole (wsV RX7 102 RX7 yX7_poleTold wsX7_poleTold) := goodIn_app (goodIn_of _ (by decide +kernel)) ggX7_pole_X7_poleTold
set_option maxRecDepth 20000 in
theorem ggX7_pole_X7_no : GoodIn wsX7_pole wsX7_no := goodIn_r _ [26, 1, 27, 28, 29, 30, 31, 32] (by decide +kernel) (by decide +kernel)
set_option maxRecDepth 20000 in
theorem gX7_pole_X7_no : GoodIn wsX7_pole (wsV RX7 42 RX7 yX7_no wsX7_no) := goodIn_app (goodIn_of _ (by decide +kernel)) ggX7_pole_X7_no
theorem dX7_pole_0 : decode cX7_pole 0 = .ok (.aload_n 0, 1) := by decide +kernel
theorem dX7_pole_1 : decode cX7_pole 1 = .ok (.iconst 0, 1) := by decide +kernel
theorem dX7_pole_2 : decode cX7_pole 2 = .ok (.putfield 32, 3) := by decide +kernel
theorem dX7_pole_5 : decode cX7_pole 5 = .ok (.aload_n 0, 1) := by decide +kernel
theorem dX7_pole_6 : decode cX7_pole 6 = .ok (.iload_n 1, 1) := by decide +kernel
theorem dX7_pole_7 : decode cX7_pole 7 = .ok (.invokevirtual 56, 3) := by decide +kernel
theorem dX7_pole_10 : decode cX7_pole 10 = .ok (.ifCond .eq 21, 3) := by decide +kernel
theorem dX7_pole_13 : decode cX7_pole 13 = .ok (.iload_n 2, 1) := by decide +kernel
theorem dX7_pole_14 : decode cX7_pole 14 = .ok (.iconst 0, 1) := by decide +kernel
theorem dX7_pole_15 : decode cX7_pole 15 = .ok (.iconst 3, 1) := by decide +kernel
theorem dX7_pole_16 : decode cX7_pole 16 = .ok (.invokestatic 35, 3) := by decide +kernel
theorem dX7_pole_19 : decode cX7_pole 19 = .ok (.ifCond .eq 12, 3) := by decide +kernel
theorem dX7_pole_22 : decode cX7_pole 22 = .ok (.aload_n 0, 1) := by decide +kernel
theorem dX7_pole_23 : decode cX7_pole 23 = .ok (.iload_n 1, 1) := by decide +kernel
theorem dX7_pole_24 : decode cX7_pole 24 = .ok (.iload_n 2, 1) := by decide +kernel
theorem dX7_pole_25 : decode cX7_pole 25 = .ok (.invokevirtual 102, 3) := by decide +kernel
theorem dX7_pole_28 : decode cX7_pole 28 = .ok (.goto 8, 3) := by decide +kernel
theorem dX7_pole_31 : decode cX7_pole 31 = .ok (.aload_n 0, 1) := by decide +kernel
theorem dX7_pole_32 : decode cX7_pole 32 = .ok (.iconst 1, 1) := by decide +kernel
theorem dX7_pole_33 : decode cX7_pole 33 = .ok (.invokevirtual 42, 3) := by decide +kernel
theorem dX7_pole_36 : decode cX7_pole 36 = .ok (.ireturn, 1) := by decide +kernel
set_option maxRecDepth 20000 in
theorem ggX7_sectionOf_X7_isSpan : GoodIn wsX7_sectionOf wsX7_isSpan := goodIn_r _ [7, 8, 9, 10, 6, 11, 22, 23, 24, 25, 26, 27] (by decide +kernel) (by decide +kernel)
set_option maxRecDepth 20000 in
theorem gX7_sectionOf_X7_isSpan : GoodIn wsX7_sectionOf (wsV RX7 49 RX7 yX7_isSpan wsX7_isSpan) := goodIn_app (goodIn_of _ (by decide +kernel)) ggX7_sectionOf_X7_isSpan
set_option maxRecDepth 20000 in
theorem ggX7_sectionOf_X6_sectionOf : GoodIn wsX7_sectionOf wsX6_sectionOf := goodIn_r _ [16, 17, 28, 29, 30, 31, 32, 33, 34, 35, 36, 37, 38, 39, 40, 41, 42, 43, 44, 45, 46] (by decide +kernel) (by decide +kernel)
set_option maxRecDepth 20000 in
theorem gX7_sectionOf_X6_sectionOf : GoodIn wsX7_sectionOf (wsV RX7 105 RX6 yX6_sectionOf wsX6_sectionOf) := goodIn_app (goodIn_of _ (by decide +kernel)) ggX7_sectionOf_X6_sectionOf
set_option maxRecDepth 20000 in
theorem ggX7_sectionOf_X7_no : GoodIn wsX7_sectionOf wsX7_no := goodIn_r _ [21, 1, 22, 23, 24, 25, 26, 27] (by decide +kernel) (by decide +kernel)
set_option maxRecDepth 20000 in
theorem gX7_sectionOf_X7_no : GoodIn wsX7_sectionOf (wsV RX7 42 RX7 yX7_no wsX7_no) := goodIn_app (goodIn_of _ (by decide +kernel)) ggX7_sectionOf_X7_no
theorem dX7_sectionOf_0 : decode cX7_sectionOf 0 = .ok (.aload_n 0, 1) := by decide +kernel
theorem dX7_sectionOf_1 : decode cX7_sectionOf 1 = .ok (.iconst 0, 1) := by decide +kernel
theorem dX7_sectionOf_2 : decode cX7_sectionOf 2 = .ok (.putfield 32, 3) := by decide +kernel
theorem dX7_sectionOf_5 : decode cX7_sectionOf 5 = .ok (.aload_n 0, 1) := by decide +kernel
theorem dX7_sectionOf_6 : decode cX7_sectionOf 6 = .ok (.iload_n 1, 1) := by decide +kernel
theorem dX7_sectionOf_7 : decode cX7_sectionOf 7 = .ok (.invokevirtual 49, 3) := by decide +kernel
theorem dX7_sectionOf_10 : decode cX7_sectionOf 10 = .ok (.ifCond .eq 14, 3) := by decide +kernel
theorem dX7_sectionOf_13 : decode cX7_sectionOf 13 = .ok (.aload_n 0, 1) := by decide +kernel
theorem dX7_sectionOf_14 : decode cX7_sectionOf 14 = .ok (.getfield 22, 3) := by decide +kernel
theorem dX7_sectionOf_17 : decode cX7_sectionOf 17 = .ok (.iload_n 1, 1) := by decide +kernel
theorem dX7_sectionOf_18 : decode cX7_sectionOf 18 = .ok (.invokevirtual 105, 3) := by decide +kernel
theorem dX7_sectionOf_21 : decode cX7_sectionOf 21 = .ok (.goto 8, 3) := by decide +kernel
theorem dX7_sectionOf_24 : decode cX7_sectionOf 24 = .ok (.aload_n 0, 1) := by decide +kernel
theorem dX7_sectionOf_25 : decode cX7_sectionOf 25 = .ok (.iconst 1, 1) := by decide +kernel
theorem dX7_sectionOf_26 : decode cX7_sectionOf 26 = .ok (.invokevirtual 42, 3) := by decide +kernel
theorem dX7_sectionOf_29 : decode cX7_sectionOf 29 = .ok (.ireturn, 1) := by decide +kernel
set_option maxRecDepth 20000 in
theorem ggX7_sectionTold_X6_sectionOf : GoodIn wsX7_sectionTold wsX6_sectionOf := goodIn_r _ [8, 9, 39, 40, 41, 42, 43, 44, 45, 46, 47, 48, 49, 50, 51, 52, 53, 54, 55, 56, 57] (by decide +kernel) (by decide +kernel)
set_option maxRecDepth 20000 in
theorem gX7_sectionTold_X6_sectionOf : GoodIn wsX7_sectionTold (wsV RX7 105 RX6 yX6_sectionOf wsX6_sectionOf) := goodIn_app (goodIn_of _ (by decide +kernel)) ggX7_sectionTold_X6_sectionOf
set_option maxRecDepth 20000 in
theorem ggX7_sectionTold_X6_drawn : GoodIn wsX7_sectionTold wsX6_drawn := goodIn_r _ [13, 14, 15, 16, 17, 7, 18, 19, 20, 21, 5, 6, 8, 9, 22, 23, 24, 25, 26, 27, 28, 29, 30, 31, 32, 39, 40, 41, 42, 43, 44, 45, 46, 47, 48, 49, 50, 51, 52, 53, 54, 55, 56, 57, 33, 34, 35, 36, 37, 38] (by decide +kernel) (by decide +kernel)
set_option maxRecDepth 20000 in
theorem gX7_sectionTold_X6_drawn : GoodIn wsX7_sectionTold (wsV RX7 111 RX6 yX6_drawn wsX6_drawn) := goodIn_app (goodIn_of _ (by decide +kernel)) ggX7_sectionTold_X6_drawn
theorem dX7_sectionTold_0 : decode cX7_sectionTold 0 = .ok (.iconst (-1), 1) := by decide +kernel
theorem dX7_sectionTold_1 : decode cX7_sectionTold 1 = .ok (.istore_n 3, 1) := by decide +kernel
theorem dX7_sectionTold_2 : decode cX7_sectionTold 2 = .ok (.iconst 0, 1) := by decide +kernel
theorem dX7_sectionTold_3 : decode cX7_sectionTold 3 = .ok (.istore 4, 2) := by decide +kernel
theorem dX7_sectionTold_5 : decode cX7_sectionTold 5 = .ok (.aload_n 0, 1) := by decide +kernel
theorem dX7_sectionTold_6 : decode cX7_sectionTold 6 = .ok (.getfield 7, 3) := by decide +kernel
theorem dX7_sectionTold_9 : decode cX7_sectionTold 9 = .ok (.iconst 2, 1) := by decide +kernel
theorem dX7_sectionTold_10 : decode cX7_sectionTold 10 = .ok (.isub, 1) := by decide +kernel
theorem dX7_sectionTold_11 : decode cX7_sectionTold 11 = .ok (.istore 5, 2) := by decide +kernel
theorem dX7_sectionTold_13 : decode cX7_sectionTold 13 = .ok (.iload 5, 2) := by decide +kernel
theorem dX7_sectionTold_15 : decode cX7_sectionTold 15 = .ok (.ifCond .lt 31, 3) := by decide +kernel
theorem dX7_sectionTold_18 : decode cX7_sectionTold 18 = .ok (.aload_n 0, 1) := by decide +kernel
theorem dX7_sectionTold_19 : decode cX7_sectionTold 19 = .ok (.getfield 22, 3) := by decide +kernel
theorem dX7_sectionTold_22 : decode cX7_sectionTold 22 = .ok (.iload 5, 2) := by decide +kernel
theorem dX7_sectionTold_24 : decode cX7_sectionTold 24 = .ok (.invokevirtual 105, 3) := by decide +kernel
theorem dX7_sectionTold_27 : decode cX7_sectionTold 27 = .ok (.iload_n 1, 1) := by decide +kernel
theorem dX7_sectionTold_28 : decode cX7_sectionTold 28 = .ok (.if_icmp .eq 6, 3) := by decide +kernel
theorem dX7_sectionTold_31 : decode cX7_sectionTold 31 = .ok (.goto 9, 3) := by decide +kernel
theorem dX7_sectionTold_34 : decode cX7_sectionTold 34 = .ok (.iload 5, 2) := by decide +kernel
theorem dX7_sectionTold_36 : decode cX7_sectionTold 36 = .ok (.istore_n 3, 1) := by decide +kernel
theorem dX7_sectionTold_37 : decode cX7_sectionTold 37 = .ok (.iinc 4 1, 3) := by decide +kernel
theorem dX7_sectionTold_40 : decode cX7_sectionTold 40 = .ok (.iinc 5 (-1), 3) := by decide +kernel
theorem dX7_sectionTold_43 : decode cX7_sectionTold 43 = .ok (.goto (-30), 3) := by decide +kernel
theorem dX7_sectionTold_46 : decode cX7_sectionTold 46 = .ok (.bipush 6, 2) := by decide +kernel
theorem dX7_sectionTold_48 : decode cX7_sectionTold 48 = .ok (.newarray .int, 2) := by decide +kernel
theorem dX7_sectionTold_50 : decode cX7_sectionTold 50 = .ok (.dup, 1) := by decide +kernel
theorem dX7_sectionTold_51 : decode cX7_sectionTold 51 = .ok (.iconst 0, 1) := by decide +kernel
theorem dX7_sectionTold_52 : decode cX7_sectionTold 52 = .ok (.iload_n 3, 1) := by decide +kernel
theorem dX7_sectionTold_53 : decode cX7_sectionTold 53 = .ok (.iastore, 1) := by decide +kernel
theorem dX7_sectionTold_54 : decode cX7_sectionTold 54 = .ok (.dup, 1) := by decide +kernel
theorem dX7_sectionTold_55 : decode cX7_sectionTold 55 = .ok (.iconst 1, 1) := by decide +kernel
theorem dX7_sectionTold_56 : decode cX7_sectionTold 56 = .ok (.iload 4, 2) := by decide +kernel
theorem dX7_sectionTold_58 : decode cX7_sectionTold 58 = .ok (.iastore, 1) := by decide +kernel
theorem dX7_sectionTold_59 : decode cX7_sectionTold 59 = .ok (.dup, 1) := by decide +kernel
theorem dX7_sectionTold_60 : decode cX7_sectionTold 60 = .ok (.iconst 2, 1) := by decide +kernel
theorem dX7_sectionTold_61 : decode cX7_sectionTold 61 = .ok (.aload_n 0, 1) := by decide +kernel
theorem dX7_sectionTold_62 : decode cX7_sectionTold 62 = .ok (.getfield 22, 3) := by decide +kernel
theorem dX7_sectionTold_65 : decode cX7_sectionTold 65 = .ok (.getfield 69, 3) := by decide +kernel
theorem dX7_sectionTold_68 : decode cX7_sectionTold 68 = .ok (.iload_n 1, 1) := by decide +kernel
theorem dX7_sectionTold_69 : decode cX7_sectionTold 69 = .ok (.iaload, 1) := by decide +kernel
theorem dX7_sectionTold_70 : decode cX7_sectionTold 70 = .ok (.iastore, 1) := by decide +kernel
theorem dX7_sectionTold_71 : decode cX7_sectionTold 71 = .ok (.dup, 1) := by decide +kernel
theorem dX7_sectionTold_72 : decode cX7_sectionTold 72 = .ok (.iconst 3, 1) := by decide +kernel
theorem dX7_sectionTold_73 : decode cX7_sectionTold 73 = .ok (.aload_n 0, 1) := by decide +kernel
theorem dX7_sectionTold_74 : decode cX7_sectionTold 74 = .ok (.getfield 22, 3) := by decide +kernel
theorem dX7_sectionTold_77 : decode cX7_sectionTold 77 = .ok (.getfield 108, 3) := by decide +kernel
theorem dX7_sectionTold_80 : decode cX7_sectionTold 80 = .ok (.iload_n 1, 1) := by decide +kernel
theorem dX7_sectionTold_81 : decode cX7_sectionTold 81 = .ok (.iaload, 1) := by decide +kernel
theorem dX7_sectionTold_82 : decode cX7_sectionTold 82 = .ok (.iastore, 1) := by decide +kernel
theorem dX7_sectionTold_83 : decode cX7_sectionTold 83 = .ok (.dup, 1) := by decide +kernel
theorem dX7_sectionTold_84 : decode cX7_sectionTold 84 = .ok (.iconst 4, 1) := by decide +kernel
theorem dX7_sectionTold_85 : decode cX7_sectionTold 85 = .ok (.aload_n 0, 1) := by decide +kernel
theorem dX7_sectionTold_86 : decode cX7_sectionTold 86 = .ok (.getfield 22, 3) := by decide +kernel
theorem dX7_sectionTold_89 : decode cX7_sectionTold 89 = .ok (.iload_n 1, 1) := by decide +kernel
theorem dX7_sectionTold_90 : decode cX7_sectionTold 90 = .ok (.invokevirtual 111, 3) := by decide +kernel
theorem dX7_sectionTold_93 : decode cX7_sectionTold 93 = .ok (.iastore, 1) := by decide +kernel
theorem dX7_sectionTold_94 : decode cX7_sectionTold 94 = .ok (.dup, 1) := by decide +kernel
theorem dX7_sectionTold_95 : decode cX7_sectionTold 95 = .ok (.iconst 5, 1) := by decide +kernel
theorem dX7_sectionTold_96 : decode cX7_sectionTold 96 = .ok (.aload_n 0, 1) := by decide +kernel
theorem dX7_sectionTold_97 : decode cX7_sectionTold 97 = .ok (.getfield 22, 3) := by decide +kernel
theorem dX7_sectionTold_100 : decode cX7_sectionTold 100 = .ok (.getfield 114, 3) := by decide +kernel
theorem dX7_sectionTold_103 : decode cX7_sectionTold 103 = .ok (.iload_n 1, 1) := by decide +kernel
theorem dX7_sectionTold_104 : decode cX7_sectionTold 104 = .ok (.iaload, 1) := by decide +kernel
theorem dX7_sectionTold_105 : decode cX7_sectionTold 105 = .ok (.iastore, 1) := by decide +kernel
theorem dX7_sectionTold_106 : decode cX7_sectionTold 106 = .ok (.astore 5, 2) := by decide +kernel
theorem dX7_sectionTold_108 : decode cX7_sectionTold 108 = .ok (.aload 5, 2) := by decide +kernel
theorem dX7_sectionTold_110 : decode cX7_sectionTold 110 = .ok (.iload_n 2, 1) := by decide +kernel
theorem dX7_sectionTold_111 : decode cX7_sectionTold 111 = .ok (.iaload, 1) := by decide +kernel
theorem dX7_sectionTold_112 : decode cX7_sectionTold 112 = .ok (.ireturn, 1) := by decide +kernel
set_option maxRecDepth 20000 in
theorem ggX7_section_X7_isSection : GoodIn wsX7_section wsX7_isSection := goodIn_r _ [6, 7, 8, 9, 5, 10, 50, 51, 52, 53, 54, 55, 56, 57, 58, 59, 60, 61, 62, 63, 64, 65, 66, 67, 68, 69, 70, 71, 72, 73, 74] (by decide +kernel) (by decide +kernel)
set_option maxRecDepth 20000 in
theorem gX7_section_X7_isSection : GoodIn wsX7_section (wsV RX7 66 RX7 yX7_isSection wsX7_isSection) := goodIn_app (goodIn_of _ (by decide +kernel)) ggX7_section_X7_isSection
set_option maxRecDepth 20000 in
theorem ggX7_section_X7_isIn : GoodIn wsX7_section wsX7_isIn := goodIn_r _ [10] (by decide +kernel) (by decide +kernel)
set_option maxRecDepth 20000 in
theorem gX7_section_X7_isIn : GoodIn wsX7_section (va_wsS RX7 35 yX7_isIn wsX7_isIn) := goodIn_app (goodIn_of _ (by decide +kernel)) ggX7_section_X7_isIn
set_option maxRecDepth 20000 in
theorem ggX7_section_X7_sectionTold : GoodIn wsX7_section wsX7_sectionTold := goodIn_r _ [14, 15, 7, 16, 17, 18, 19, 20, 21, 22, 23, 24, 25, 26, 27, 28, 29, 30, 31, 32, 33, 34, 35, 36, 37, 38, 39, 40, 41, 42, 43, 44, 45, 50, 51, 52, 53, 54, 55, 56, 57, 58, 59, 60, 61, 62, 63, 64, 65, 66, 67, 68, 69, 70, 71, 72, 73, 74] (by decide +kernel) (by decide +kernel)
set_option maxRecDepth 20000 in
theorem gX7_section_X7_sectionTold : GoodIn wsX7_section (wsV RX7 117 RX7 yX7_sectionTold wsX7_sectionTold) := goodIn_app (goodIn_of _ (by decide +kernel)) ggX7_section_X7_sectionTold
set_option maxRecDepth 20000 in
theorem ggX7_section_X7_no : GoodIn wsX7_section wsX7_no := goodIn_r _ [49, 1, 50, 51, 52, 53, 54, 55] (by decide +kernel) (by decide +kernel)
set_option maxRecDepth 20000 in
theorem gX7_section_X7_no : GoodIn wsX7_section (wsV RX7 42 RX7 yX7_no wsX7_no) := goodIn_app (goodIn_of _ (by decide +kernel)) ggX7_section_X7_no
theorem dX7_section_0 : decode cX7_section 0 = .ok (.aload_n 0, 1) := by decide +kernel
theorem dX7_section_1 : decode cX7_section 1 = .ok (.iconst 0, 1) := by decide +kernel
theorem dX7_section_2 : decode cX7_section 2 = .ok (.putfield 32, 3) := by decide +kernel
theorem dX7_section_5 : decode cX7_section 5 = .ok (.aload_n 0, 1) := by decide +kernel
theorem dX7_section_6 : decode cX7_section 6 = .ok (.iload_n 1, 1) := by decide +kernel
theorem dX7_section_7 : decode cX7_section 7 = .ok (.invokevirtual 66, 3) := by decide +kernel
theorem dX7_section_10 : decode cX7_section 10 = .ok (.ifCond .eq 21, 3) := by decide +kernel
theorem dX7_section_13 : decode cX7_section 13 = .ok (.iload_n 2, 1) := by decide +kernel
theorem dX7_section_14 : decode cX7_section 14 = .ok (.iconst 0, 1) := by decide +kernel
theorem dX7_section_15 : decode cX7_section 15 = .ok (.iconst 5, 1) := by decide +kernel
theorem dX7_section_16 : decode cX7_section 16 = .ok (.invokestatic 35, 3) := by decide +kernel
theorem dX7_section_19 : decode cX7_section 19 = .ok (.ifCond .eq 12, 3) := by decide +kernel
theorem dX7_section_22 : decode cX7_section 22 = .ok (.aload_n 0, 1) := by decide +kernel
theorem dX7_section_23 : decode cX7_section 23 = .ok (.iload_n 1, 1) := by decide +kernel
theorem dX7_section_24 : decode cX7_section 24 = .ok (.iload_n 2, 1) := by decide +kernel
theorem dX7_section_25 : decode cX7_section 25 = .ok (.invokevirtual 117, 3) := by decide +kernel
theorem dX7_section_28 : decode cX7_section 28 = .ok (.goto 8, 3) := by decide +kernel
theorem dX7_section_31 : decode cX7_section 31 = .ok (.aload_n 0, 1) := by decide +kernel
theorem dX7_section_32 : decode cX7_section 32 = .ok (.iconst 1, 1) := by decide +kernel
theorem dX7_section_33 : decode cX7_section 33 = .ok (.invokevirtual 42, 3) := by decide +kernel
theorem dX7_section_36 : decode cX7_section 36 = .ok (.ireturn, 1) := by decide +kernel
set_option maxRecDepth 20000 in
theorem ggX7_carTold_X6_draws : GoodIn wsX7_carTold wsX6_draws := goodIn_r _ [7, 8, 9, 10, 11, 12, 13, 14, 15, 16, 17, 18, 19, 6, 20, 21, 28, 29, 30, 31, 32, 33, 34, 35, 36, 37, 38, 39, 40, 41, 42, 43, 44, 45, 46, 22, 23, 24, 25, 26, 27] (by decide +kernel) (by decide +kernel)
set_option maxRecDepth 20000 in
theorem gX7_carTold_X6_draws : GoodIn wsX7_carTold (wsV RX7 126 RX6 yX6_draws wsX6_draws) := goodIn_app (goodIn_of _ (by decide +kernel)) ggX7_carTold_X6_draws
theorem dX7_carTold_0 : decode cX7_carTold 0 = .ok (.bipush 8, 2) := by decide +kernel
theorem dX7_carTold_2 : decode cX7_carTold 2 = .ok (.newarray .int, 2) := by decide +kernel
theorem dX7_carTold_4 : decode cX7_carTold 4 = .ok (.dup, 1) := by decide +kernel
theorem dX7_carTold_5 : decode cX7_carTold 5 = .ok (.iconst 0, 1) := by decide +kernel
theorem dX7_carTold_6 : decode cX7_carTold 6 = .ok (.aload_n 0, 1) := by decide +kernel
theorem dX7_carTold_7 : decode cX7_carTold 7 = .ok (.getfield 22, 3) := by decide +kernel
theorem dX7_carTold_10 : decode cX7_carTold 10 = .ok (.getfield 90, 3) := by decide +kernel
theorem dX7_carTold_13 : decode cX7_carTold 13 = .ok (.iload_n 1, 1) := by decide +kernel
theorem dX7_carTold_14 : decode cX7_carTold 14 = .ok (.iaload, 1) := by decide +kernel
theorem dX7_carTold_15 : decode cX7_carTold 15 = .ok (.iastore, 1) := by decide +kernel
theorem dX7_carTold_16 : decode cX7_carTold 16 = .ok (.dup, 1) := by decide +kernel
theorem dX7_carTold_17 : decode cX7_carTold 17 = .ok (.iconst 1, 1) := by decide +kernel
theorem dX7_carTold_18 : decode cX7_carTold 18 = .ok (.aload_n 0, 1) := by decide +kernel
theorem dX7_carTold_19 : decode cX7_carTold 19 = .ok (.getfield 22, 3) := by decide +kernel
theorem dX7_carTold_22 : decode cX7_carTold 22 = .ok (.getfield 93, 3) := by decide +kernel
theorem dX7_carTold_25 : decode cX7_carTold 25 = .ok (.iload_n 1, 1) := by decide +kernel
theorem dX7_carTold_26 : decode cX7_carTold 26 = .ok (.iaload, 1) := by decide +kernel
theorem dX7_carTold_27 : decode cX7_carTold 27 = .ok (.ifCond .le 7, 3) := by decide +kernel
theorem dX7_carTold_30 : decode cX7_carTold 30 = .ok (.iconst 1, 1) := by decide +kernel
theorem dX7_carTold_31 : decode cX7_carTold 31 = .ok (.goto 4, 3) := by decide +kernel
theorem dX7_carTold_34 : decode cX7_carTold 34 = .ok (.iconst 0, 1) := by decide +kernel
theorem dX7_carTold_35 : decode cX7_carTold 35 = .ok (.iastore, 1) := by decide +kernel
theorem dX7_carTold_36 : decode cX7_carTold 36 = .ok (.dup, 1) := by decide +kernel
theorem dX7_carTold_37 : decode cX7_carTold 37 = .ok (.iconst 2, 1) := by decide +kernel
theorem dX7_carTold_38 : decode cX7_carTold 38 = .ok (.aload_n 0, 1) := by decide +kernel
theorem dX7_carTold_39 : decode cX7_carTold 39 = .ok (.getfield 22, 3) := by decide +kernel
theorem dX7_carTold_42 : decode cX7_carTold 42 = .ok (.getfield 120, 3) := by decide +kernel
theorem dX7_carTold_45 : decode cX7_carTold 45 = .ok (.iload_n 1, 1) := by decide +kernel
theorem dX7_carTold_46 : decode cX7_carTold 46 = .ok (.iaload, 1) := by decide +kernel
theorem dX7_carTold_47 : decode cX7_carTold 47 = .ok (.iastore, 1) := by decide +kernel
theorem dX7_carTold_48 : decode cX7_carTold 48 = .ok (.dup, 1) := by decide +kernel
theorem dX7_carTold_49 : decode cX7_carTold 49 = .ok (.iconst 3, 1) := by decide +kernel
theorem dX7_carTold_50 : decode cX7_carTold 50 = .ok (.aload_n 0, 1) := by decide +kernel
theorem dX7_carTold_51 : decode cX7_carTold 51 = .ok (.getfield 22, 3) := by decide +kernel
theorem dX7_carTold_54 : decode cX7_carTold 54 = .ok (.getfield 96, 3) := by decide +kernel
theorem dX7_carTold_57 : decode cX7_carTold 57 = .ok (.iload_n 1, 1) := by decide +kernel
theorem dX7_carTold_58 : decode cX7_carTold 58 = .ok (.iaload, 1) := by decide +kernel
theorem dX7_carTold_59 : decode cX7_carTold 59 = .ok (.iastore, 1) := by decide +kernel
theorem dX7_carTold_60 : decode cX7_carTold 60 = .ok (.dup, 1) := by decide +kernel
theorem dX7_carTold_61 : decode cX7_carTold 61 = .ok (.iconst 4, 1) := by decide +kernel
theorem dX7_carTold_62 : decode cX7_carTold 62 = .ok (.aload_n 0, 1) := by decide +kernel
theorem dX7_carTold_63 : decode cX7_carTold 63 = .ok (.getfield 22, 3) := by decide +kernel
theorem dX7_carTold_66 : decode cX7_carTold 66 = .ok (.getfield 123, 3) := by decide +kernel
theorem dX7_carTold_69 : decode cX7_carTold 69 = .ok (.iload_n 1, 1) := by decide +kernel
theorem dX7_carTold_70 : decode cX7_carTold 70 = .ok (.iaload, 1) := by decide +kernel
theorem dX7_carTold_71 : decode cX7_carTold 71 = .ok (.iastore, 1) := by decide +kernel
theorem dX7_carTold_72 : decode cX7_carTold 72 = .ok (.dup, 1) := by decide +kernel
theorem dX7_carTold_73 : decode cX7_carTold 73 = .ok (.iconst 5, 1) := by decide +kernel
theorem dX7_carTold_74 : decode cX7_carTold 74 = .ok (.aload_n 0, 1) := by decide +kernel
theorem dX7_carTold_75 : decode cX7_carTold 75 = .ok (.getfield 22, 3) := by decide +kernel
theorem dX7_carTold_78 : decode cX7_carTold 78 = .ok (.getfield 99, 3) := by decide +kernel
theorem dX7_carTold_81 : decode cX7_carTold 81 = .ok (.iload_n 1, 1) := by decide +kernel
theorem dX7_carTold_82 : decode cX7_carTold 82 = .ok (.iaload, 1) := by decide +kernel
theorem dX7_carTold_83 : decode cX7_carTold 83 = .ok (.iastore, 1) := by decide +kernel
theorem dX7_carTold_84 : decode cX7_carTold 84 = .ok (.dup, 1) := by decide +kernel
theorem dX7_carTold_85 : decode cX7_carTold 85 = .ok (.bipush 6, 2) := by decide +kernel
theorem dX7_carTold_87 : decode cX7_carTold 87 = .ok (.aload_n 0, 1) := by decide +kernel
theorem dX7_carTold_88 : decode cX7_carTold 88 = .ok (.getfield 22, 3) := by decide +kernel
theorem dX7_carTold_91 : decode cX7_carTold 91 = .ok (.iload_n 1, 1) := by decide +kernel
theorem dX7_carTold_92 : decode cX7_carTold 92 = .ok (.invokevirtual 126, 3) := by decide +kernel
theorem dX7_carTold_95 : decode cX7_carTold 95 = .ok (.iastore, 1) := by decide +kernel
theorem dX7_carTold_96 : decode cX7_carTold 96 = .ok (.dup, 1) := by decide +kernel
theorem dX7_carTold_97 : decode cX7_carTold 97 = .ok (.bipush 7, 2) := by decide +kernel
theorem dX7_carTold_99 : decode cX7_carTold 99 = .ok (.aload_n 0, 1) := by decide +kernel
theorem dX7_carTold_100 : decode cX7_carTold 100 = .ok (.getfield 22, 3) := by decide +kernel
theorem dX7_carTold_103 : decode cX7_carTold 103 = .ok (.getfield 129, 3) := by decide +kernel
theorem dX7_carTold_106 : decode cX7_carTold 106 = .ok (.iload_n 1, 1) := by decide +kernel
theorem dX7_carTold_107 : decode cX7_carTold 107 = .ok (.iaload, 1) := by decide +kernel
theorem dX7_carTold_108 : decode cX7_carTold 108 = .ok (.iastore, 1) := by decide +kernel
theorem dX7_carTold_109 : decode cX7_carTold 109 = .ok (.astore_n 3, 1) := by decide +kernel
theorem dX7_carTold_110 : decode cX7_carTold 110 = .ok (.aload_n 3, 1) := by decide +kernel
theorem dX7_carTold_111 : decode cX7_carTold 111 = .ok (.iload_n 2, 1) := by decide +kernel
theorem dX7_carTold_112 : decode cX7_carTold 112 = .ok (.iaload, 1) := by decide +kernel
theorem dX7_carTold_113 : decode cX7_carTold 113 = .ok (.ireturn, 1) := by decide +kernel
set_option maxRecDepth 20000 in
theorem ggX7_car_X7_isIn : GoodIn wsX7_car wsX7_isIn := goodIn_r _ [6] (by decide +kernel) (by decide +kernel)
set_option maxRecDepth 20000 in
theorem gX7_car_X7_isIn : GoodIn wsX7_car (va_wsS RX7 35 yX7_isIn wsX7_isIn) := goodIn_app (goodIn_of _ (by decide +kernel)) ggX7_car_X7_isIn
set_option maxRecDepth 20000 in
theorem ggX7_car_X7_carTold : GoodIn wsX7_car wsX7_carTold := goodIn_r _ [10, 11, 12, 13, 14, 15, 16, 17, 18, 19, 20, 21, 22, 23, 24, 25, 26, 27, 28, 29, 30, 31, 36, 37, 38, 39, 40, 41, 42, 43, 44, 45, 46, 47, 48, 49, 50, 51, 52, 53, 54, 55, 56, 57, 58, 59, 60] (by decide +kernel) (by decide +kernel)
set_option maxRecDepth 20000 in
theorem gX7_car_X7_carTold : GoodIn wsX7_car (wsV RX7 132 RX7 yX7_carTold wsX7_carTold) := goodIn_app (goodIn_of _ (by decide +kernel)) ggX7_car_X7_carTold
set_option maxRecDepth 20000 in
theorem ggX7_car_X7_no : GoodIn wsX7_car wsX7_no := goodIn_r _ [35, 1, 36, 37, 38, 39, 40, 41] (by decide +kernel) (by decide +kernel)
set_option maxRecDepth 20000 in
theorem gX7_car_X7_no : GoodIn wsX7_car (wsV RX7 42 RX7 yX7_no wsX7_no) := goodIn_app (goodIn_of _ (by decide +kernel)) ggX7_car_X7_no
theorem dX7_car_0 : decode cX7_car 0 = .ok (.aload_n 0, 1) := by decide +kernel
theorem dX7_car_1 : decode cX7_car 1 = .ok (.iconst 0, 1) := by decide +kernel
theorem dX7_car_2 : decode cX7_car 2 = .ok (.putfield 32, 3) := by decide +kernel
theorem dX7_car_5 : decode cX7_car 5 = .ok (.iload_n 1, 1) := by decide +kernel
theorem dX7_car_6 : decode cX7_car 6 = .ok (.iconst 0, 1) := by decide +kernel
theorem dX7_car_7 : decode cX7_car 7 = .ok (.aload_n 0, 1) := by decide +kernel
theorem dX7_car_8 : decode cX7_car 8 = .ok (.getfield 46, 3) := by decide +kernel
theorem dX7_car_11 : decode cX7_car 11 = .ok (.iconst 1, 1) := by decide +kernel
theorem dX7_car_12 : decode cX7_car 12 = .ok (.isub, 1) := by decide +kernel
theorem dX7_car_13 : decode cX7_car 13 = .ok (.invokestatic 35, 3) := by decide +kernel
theorem dX7_car_16 : decode cX7_car 16 = .ok (.ifCond .eq 22, 3) := by decide +kernel
theorem dX7_car_19 : decode cX7_car 19 = .ok (.iload_n 2, 1) := by decide +kernel
theorem dX7_car_20 : decode cX7_car 20 = .ok (.iconst 0, 1) := by decide +kernel
theorem dX7_car_21 : decode cX7_car 21 = .ok (.bipush 7, 2) := by decide +kernel
theorem dX7_car_23 : decode cX7_car 23 = .ok (.invokestatic 35, 3) := by decide +kernel
theorem dX7_car_26 : decode cX7_car 26 = .ok (.ifCond .eq 12, 3) := by decide +kernel
theorem dX7_car_29 : decode cX7_car 29 = .ok (.aload_n 0, 1) := by decide +kernel
theorem dX7_car_30 : decode cX7_car 30 = .ok (.iload_n 1, 1) := by decide +kernel
theorem dX7_car_31 : decode cX7_car 31 = .ok (.iload_n 2, 1) := by decide +kernel
theorem dX7_car_32 : decode cX7_car 32 = .ok (.invokevirtual 132, 3) := by decide +kernel
theorem dX7_car_35 : decode cX7_car 35 = .ok (.goto 8, 3) := by decide +kernel
theorem dX7_car_38 : decode cX7_car 38 = .ok (.aload_n 0, 1) := by decide +kernel
theorem dX7_car_39 : decode cX7_car 39 = .ok (.iconst 1, 1) := by decide +kernel
theorem dX7_car_40 : decode cX7_car 40 = .ok (.invokevirtual 42, 3) := by decide +kernel
theorem dX7_car_43 : decode cX7_car 43 = .ok (.ireturn, 1) := by decide +kernel
set_option maxRecDepth 20000 in
theorem ggX7_pass_X7_isIn : GoodIn wsX7_pass wsX7_isIn := goodIn_r _ [6] (by decide +kernel) (by decide +kernel)
set_option maxRecDepth 20000 in
theorem gX7_pass_X7_isIn : GoodIn wsX7_pass (va_wsS RX7 35 yX7_isIn wsX7_isIn) := goodIn_app (goodIn_of _ (by decide +kernel)) ggX7_pass_X7_isIn
set_option maxRecDepth 20000 in
theorem ggX7_pass_X7_no : GoodIn wsX7_pass wsX7_no := goodIn_r _ [10, 1, 82, 83, 84, 85, 86, 87] (by decide +kernel) (by decide +kernel)
set_option maxRecDepth 20000 in
theorem gX7_pass_X7_no : GoodIn wsX7_pass (wsV RX7 42 RX7 yX7_no wsX7_no) := goodIn_app (goodIn_of _ (by decide +kernel)) ggX7_pass_X7_no
set_option maxRecDepth 20000 in
theorem ggX7_pass_X6_turn : GoodIn wsX7_pass wsX6_turn := goodIn_r _ [15, 16, 17, 18, 19, 20, 21, 22, 14, 23, 24, 88, 89, 90, 91, 92, 93, 94, 95, 96, 97, 98, 99, 100, 101, 102, 103, 104, 105, 106, 82, 83, 84, 85, 86, 87] (by decide +kernel) (by decide +kernel)
set_option maxRecDepth 20000 in
theorem gX7_pass_X6_turn : GoodIn wsX7_pass (wsV RX7 138 RX6 yX6_turn wsX6_turn) := goodIn_app (goodIn_of _ (by decide +kernel)) ggX7_pass_X6_turn
set_option maxRecDepth 20000 in
theorem ggX7_pass_X6_pass : GoodIn wsX7_pass wsX6_pass := goodIn_r _ [28, 29, 30, 31, 32, 16, 33, 34, 35, 36, 37, 38, 39, 40, 41, 42, 43, 44, 14, 45, 20, 21, 22, 23, 18, 24, 46, 47, 48, 49, 50, 51, 52, 53, 54, 17, 55, 19, 56, 57, 58, 59, 60, 61, 62, 63, 64, 65, 66, 67, 68, 69, 70, 71, 72, 73, 74, 75, 76, 77, 78, 79, 80, 81, 88, 89, 90, 91, 92, 93, 94, 95, 96, 97, 98, 99, 100, 101, 102, 103, 104, 105, 106, 82, 83, 84, 85, 86, 87] (by decide +kernel) (by decide +kernel)
set_option maxRecDepth 20000 in
theorem gX7_pass_X6_pass : GoodIn wsX7_pass (wsV RX7 141 RX6 yX6_pass wsX6_pass) := goodIn_app (goodIn_of _ (by decide +kernel)) ggX7_pass_X6_pass
theorem dX7_pass_0 : decode cX7_pass 0 = .ok (.aload_n 0, 1) := by decide +kernel
theorem dX7_pass_1 : decode cX7_pass 1 = .ok (.iconst 0, 1) := by decide +kernel
theorem dX7_pass_2 : decode cX7_pass 2 = .ok (.putfield 32, 3) := by decide +kernel
theorem dX7_pass_5 : decode cX7_pass 5 = .ok (.iload_n 1, 1) := by decide +kernel
theorem dX7_pass_6 : decode cX7_pass 6 = .ok (.iconst 1, 1) := by decide +kernel
theorem dX7_pass_7 : decode cX7_pass 7 = .ok (.sipush 200, 3) := by decide +kernel
theorem dX7_pass_10 : decode cX7_pass 10 = .ok (.invokestatic 35, 3) := by decide +kernel
theorem dX7_pass_13 : decode cX7_pass 13 = .ok (.ifCond .ne 9, 3) := by decide +kernel
theorem dX7_pass_16 : decode cX7_pass 16 = .ok (.aload_n 0, 1) := by decide +kernel
theorem dX7_pass_17 : decode cX7_pass 17 = .ok (.iconst 1, 1) := by decide +kernel
theorem dX7_pass_18 : decode cX7_pass 18 = .ok (.invokevirtual 42, 3) := by decide +kernel
theorem dX7_pass_21 : decode cX7_pass 21 = .ok (.ireturn, 1) := by decide +kernel
theorem dX7_pass_22 : decode cX7_pass 22 = .ok (.aload_n 0, 1) := by decide +kernel
theorem dX7_pass_23 : decode cX7_pass 23 = .ok (.getfield 22, 3) := by decide +kernel
theorem dX7_pass_26 : decode cX7_pass 26 = .ok (.getfield 135, 3) := by decide +kernel
theorem dX7_pass_29 : decode cX7_pass 29 = .ok (.istore_n 2, 1) := by decide +kernel
theorem dX7_pass_30 : decode cX7_pass 30 = .ok (.iconst 0, 1) := by decide +kernel
theorem dX7_pass_31 : decode cX7_pass 31 = .ok (.istore_n 3, 1) := by decide +kernel
theorem dX7_pass_32 : decode cX7_pass 32 = .ok (.iload_n 3, 1) := by decide +kernel
theorem dX7_pass_33 : decode cX7_pass 33 = .ok (.iload_n 1, 1) := by decide +kernel
theorem dX7_pass_34 : decode cX7_pass 34 = .ok (.if_icmp .ge 23, 3) := by decide +kernel
theorem dX7_pass_37 : decode cX7_pass 37 = .ok (.aload_n 0, 1) := by decide +kernel
theorem dX7_pass_38 : decode cX7_pass 38 = .ok (.getfield 22, 3) := by decide +kernel
theorem dX7_pass_41 : decode cX7_pass 41 = .ok (.invokevirtual 138, 3) := by decide +kernel
theorem dX7_pass_44 : decode cX7_pass 44 = .ok (.aload_n 0, 1) := by decide +kernel
theorem dX7_pass_45 : decode cX7_pass 45 = .ok (.getfield 22, 3) := by decide +kernel
theorem dX7_pass_48 : decode cX7_pass 48 = .ok (.invokevirtual 141, 3) := by decide +kernel
theorem dX7_pass_51 : decode cX7_pass 51 = .ok (.iinc 3 1, 3) := by decide +kernel
theorem dX7_pass_54 : decode cX7_pass 54 = .ok (.goto (-22), 3) := by decide +kernel
theorem dX7_pass_57 : decode cX7_pass 57 = .ok (.aload_n 0, 1) := by decide +kernel
theorem dX7_pass_58 : decode cX7_pass 58 = .ok (.getfield 22, 3) := by decide +kernel
theorem dX7_pass_61 : decode cX7_pass 61 = .ok (.getfield 135, 3) := by decide +kernel
theorem dX7_pass_64 : decode cX7_pass 64 = .ok (.iload_n 2, 1) := by decide +kernel
theorem dX7_pass_65 : decode cX7_pass 65 = .ok (.isub, 1) := by decide +kernel
theorem dX7_pass_66 : decode cX7_pass 66 = .ok (.ireturn, 1) := by decide +kernel
set_option maxRecDepth 20000 in
theorem ggX7_counted_X6_brokenOnes : GoodIn wsX7_counted wsX6_brokenOnes := goodIn_r _ [13, 14, 15, 27, 28, 29, 30, 31, 32, 33, 34, 35, 36, 37, 38, 39, 40, 41, 42, 43, 44, 45, 21, 22, 23, 24, 25, 26] (by decide +kernel) (by decide +kernel)
set_option maxRecDepth 20000 in
theorem gX7_counted_X6_brokenOnes : GoodIn wsX7_counted (wsV RX7 147 RX6 yX6_brokenOnes wsX6_brokenOnes) := goodIn_app (goodIn_of _ (by decide +kernel)) ggX7_counted_X6_brokenOnes
set_option maxRecDepth 20000 in
theorem ggX7_counted_X6_waiting : GoodIn wsX7_counted wsX6_waiting := goodIn_r _ [19, 14, 20, 27, 28, 29, 30, 31, 32, 33, 34, 35, 36, 37, 38, 39, 40, 41, 42, 43, 44, 45, 21, 22, 23, 24, 25, 26] (by decide +kernel) (by decide +kernel)
set_option maxRecDepth 20000 in
theorem gX7_counted_X6_waiting : GoodIn wsX7_counted (wsV RX7 151 RX6 yX6_waiting wsX6_waiting) := goodIn_app (goodIn_of _ (by decide +kernel)) ggX7_counted_X6_waiting
theorem dX7_counted_0 : decode cX7_counted 0 = .ok (.iconst 0, 1) := by decide +kernel
theorem dX7_counted_1 : decode cX7_counted 1 = .ok (.istore_n 2, 1) := by decide +kernel
theorem dX7_counted_2 : decode cX7_counted 2 = .ok (.iconst 0, 1) := by decide +kernel
theorem dX7_counted_3 : decode cX7_counted 3 = .ok (.istore_n 3, 1) := by decide +kernel
theorem dX7_counted_4 : decode cX7_counted 4 = .ok (.iconst 0, 1) := by decide +kernel
theorem dX7_counted_5 : decode cX7_counted 5 = .ok (.istore 4, 2) := by decide +kernel
theorem dX7_counted_7 : decode cX7_counted 7 = .ok (.iconst 0, 1) := by decide +kernel
theorem dX7_counted_8 : decode cX7_counted 8 = .ok (.istore 5, 2) := by decide +kernel
theorem dX7_counted_10 : decode cX7_counted 10 = .ok (.iload 5, 2) := by decide +kernel
theorem dX7_counted_12 : decode cX7_counted 12 = .ok (.aload_n 0, 1) := by decide +kernel
theorem dX7_counted_13 : decode cX7_counted 13 = .ok (.getfield 22, 3) := by decide +kernel
theorem dX7_counted_16 : decode cX7_counted 16 = .ok (.getfield 39, 3) := by decide +kernel
theorem dX7_counted_19 : decode cX7_counted 19 = .ok (.if_icmp .ge 30, 3) := by decide +kernel
theorem dX7_counted_22 : decode cX7_counted 22 = .ok (.iload_n 2, 1) := by decide +kernel
theorem dX7_counted_23 : decode cX7_counted 23 = .ok (.aload_n 0, 1) := by decide +kernel
theorem dX7_counted_24 : decode cX7_counted 24 = .ok (.getfield 22, 3) := by decide +kernel
theorem dX7_counted_27 : decode cX7_counted 27 = .ok (.getfield 108, 3) := by decide +kernel
theorem dX7_counted_30 : decode cX7_counted 30 = .ok (.iload 5, 2) := by decide +kernel
theorem dX7_counted_32 : decode cX7_counted 32 = .ok (.iaload, 1) := by decide +kernel
theorem dX7_counted_33 : decode cX7_counted 33 = .ok (.ifCond .le 7, 3) := by decide +kernel
theorem dX7_counted_36 : decode cX7_counted 36 = .ok (.iconst 1, 1) := by decide +kernel
theorem dX7_counted_37 : decode cX7_counted 37 = .ok (.goto 4, 3) := by decide +kernel
theorem dX7_counted_40 : decode cX7_counted 40 = .ok (.iconst 0, 1) := by decide +kernel
theorem dX7_counted_41 : decode cX7_counted 41 = .ok (.iadd, 1) := by decide +kernel
theorem dX7_counted_42 : decode cX7_counted 42 = .ok (.istore_n 2, 1) := by decide +kernel
theorem dX7_counted_43 : decode cX7_counted 43 = .ok (.iinc 5 1, 3) := by decide +kernel
theorem dX7_counted_46 : decode cX7_counted 46 = .ok (.goto (-36), 3) := by decide +kernel
theorem dX7_counted_49 : decode cX7_counted 49 = .ok (.iconst 0, 1) := by decide +kernel
theorem dX7_counted_50 : decode cX7_counted 50 = .ok (.istore 5, 2) := by decide +kernel
theorem dX7_counted_52 : decode cX7_counted 52 = .ok (.iload 5, 2) := by decide +kernel
theorem dX7_counted_54 : decode cX7_counted 54 = .ok (.aload_n 0, 1) := by decide +kernel
theorem dX7_counted_55 : decode cX7_counted 55 = .ok (.getfield 46, 3) := by decide +kernel
theorem dX7_counted_58 : decode cX7_counted 58 = .ok (.if_icmp .ge 22, 3) := by decide +kernel
theorem dX7_counted_61 : decode cX7_counted 61 = .ok (.iload_n 3, 1) := by decide +kernel
theorem dX7_counted_62 : decode cX7_counted 62 = .ok (.aload_n 0, 1) := by decide +kernel
theorem dX7_counted_63 : decode cX7_counted 63 = .ok (.getfield 22, 3) := by decide +kernel
theorem dX7_counted_66 : decode cX7_counted 66 = .ok (.getfield 120, 3) := by decide +kernel
theorem dX7_counted_69 : decode cX7_counted 69 = .ok (.iload 5, 2) := by decide +kernel
theorem dX7_counted_71 : decode cX7_counted 71 = .ok (.iaload, 1) := by decide +kernel
theorem dX7_counted_72 : decode cX7_counted 72 = .ok (.iadd, 1) := by decide +kernel
theorem dX7_counted_73 : decode cX7_counted 73 = .ok (.istore_n 3, 1) := by decide +kernel
theorem dX7_counted_74 : decode cX7_counted 74 = .ok (.iinc 5 1, 3) := by decide +kernel
theorem dX7_counted_77 : decode cX7_counted 77 = .ok (.goto (-25), 3) := by decide +kernel
theorem dX7_counted_80 : decode cX7_counted 80 = .ok (.iconst 0, 1) := by decide +kernel
theorem dX7_counted_81 : decode cX7_counted 81 = .ok (.istore 5, 2) := by decide +kernel
theorem dX7_counted_83 : decode cX7_counted 83 = .ok (.iload 5, 2) := by decide +kernel
theorem dX7_counted_85 : decode cX7_counted 85 = .ok (.aload_n 0, 1) := by decide +kernel
theorem dX7_counted_86 : decode cX7_counted 86 = .ok (.getfield 7, 3) := by decide +kernel
theorem dX7_counted_89 : decode cX7_counted 89 = .ok (.if_icmp .ge 28, 3) := by decide +kernel
theorem dX7_counted_92 : decode cX7_counted 92 = .ok (.iload 4, 2) := by decide +kernel
theorem dX7_counted_94 : decode cX7_counted 94 = .ok (.iconst 0, 1) := by decide +kernel
theorem dX7_counted_95 : decode cX7_counted 95 = .ok (.aload_n 0, 1) := by decide +kernel
theorem dX7_counted_96 : decode cX7_counted 96 = .ok (.getfield 22, 3) := by decide +kernel
theorem dX7_counted_99 : decode cX7_counted 99 = .ok (.getfield 72, 3) := by decide +kernel
theorem dX7_counted_102 : decode cX7_counted 102 = .ok (.iload 5, 2) := by decide +kernel
theorem dX7_counted_104 : decode cX7_counted 104 = .ok (.iaload, 1) := by decide +kernel
theorem dX7_counted_105 : decode cX7_counted 105 = .ok (.invokestatic 75, 3) := by decide +kernel
theorem dX7_counted_108 : decode cX7_counted 108 = .ok (.iadd, 1) := by decide +kernel
theorem dX7_counted_109 : decode cX7_counted 109 = .ok (.istore 4, 2) := by decide +kernel
theorem dX7_counted_111 : decode cX7_counted 111 = .ok (.iinc 5 1, 3) := by decide +kernel
theorem dX7_counted_114 : decode cX7_counted 114 = .ok (.goto (-31), 3) := by decide +kernel
theorem dX7_counted_117 : decode cX7_counted 117 = .ok (.bipush 11, 2) := by decide +kernel
theorem dX7_counted_119 : decode cX7_counted 119 = .ok (.newarray .int, 2) := by decide +kernel
theorem dX7_counted_121 : decode cX7_counted 121 = .ok (.dup, 1) := by decide +kernel
theorem dX7_counted_122 : decode cX7_counted 122 = .ok (.iconst 0, 1) := by decide +kernel
theorem dX7_counted_123 : decode cX7_counted 123 = .ok (.aload_n 0, 1) := by decide +kernel
theorem dX7_counted_124 : decode cX7_counted 124 = .ok (.getfield 22, 3) := by decide +kernel
theorem dX7_counted_127 : decode cX7_counted 127 = .ok (.getfield 144, 3) := by decide +kernel
theorem dX7_counted_130 : decode cX7_counted 130 = .ok (.iastore, 1) := by decide +kernel
theorem dX7_counted_131 : decode cX7_counted 131 = .ok (.dup, 1) := by decide +kernel
theorem dX7_counted_132 : decode cX7_counted 132 = .ok (.iconst 1, 1) := by decide +kernel
theorem dX7_counted_133 : decode cX7_counted 133 = .ok (.aload_n 0, 1) := by decide +kernel
theorem dX7_counted_134 : decode cX7_counted 134 = .ok (.getfield 7, 3) := by decide +kernel
theorem dX7_counted_137 : decode cX7_counted 137 = .ok (.iastore, 1) := by decide +kernel
theorem dX7_counted_138 : decode cX7_counted 138 = .ok (.dup, 1) := by decide +kernel
theorem dX7_counted_139 : decode cX7_counted 139 = .ok (.iconst 2, 1) := by decide +kernel
theorem dX7_counted_140 : decode cX7_counted 140 = .ok (.aload_n 0, 1) := by decide +kernel
theorem dX7_counted_141 : decode cX7_counted 141 = .ok (.getfield 22, 3) := by decide +kernel
theorem dX7_counted_144 : decode cX7_counted 144 = .ok (.getfield 39, 3) := by decide +kernel
theorem dX7_counted_147 : decode cX7_counted 147 = .ok (.iastore, 1) := by decide +kernel
theorem dX7_counted_148 : decode cX7_counted 148 = .ok (.dup, 1) := by decide +kernel
theorem dX7_counted_149 : decode cX7_counted 149 = .ok (.iconst 3, 1) := by decide +kernel
theorem dX7_counted_150 : decode cX7_counted 150 = .ok (.iload_n 2, 1) := by decide +kernel
theorem dX7_counted_151 : decode cX7_counted 151 = .ok (.iastore, 1) := by decide +kernel
theorem dX7_counted_152 : decode cX7_counted 152 = .ok (.dup, 1) := by decide +kernel
theorem dX7_counted_153 : decode cX7_counted 153 = .ok (.iconst 4, 1) := by decide +kernel
theorem dX7_counted_154 : decode cX7_counted 154 = .ok (.aload_n 0, 1) := by decide +kernel
theorem dX7_counted_155 : decode cX7_counted 155 = .ok (.getfield 46, 3) := by decide +kernel
theorem dX7_counted_158 : decode cX7_counted 158 = .ok (.iastore, 1) := by decide +kernel
theorem dX7_counted_159 : decode cX7_counted 159 = .ok (.dup, 1) := by decide +kernel
theorem dX7_counted_160 : decode cX7_counted 160 = .ok (.iconst 5, 1) := by decide +kernel
theorem dX7_counted_161 : decode cX7_counted 161 = .ok (.aload_n 0, 1) := by decide +kernel
theorem dX7_counted_162 : decode cX7_counted 162 = .ok (.getfield 22, 3) := by decide +kernel
theorem dX7_counted_165 : decode cX7_counted 165 = .ok (.invokevirtual 147, 3) := by decide +kernel
theorem dX7_counted_168 : decode cX7_counted 168 = .ok (.iastore, 1) := by decide +kernel
theorem dX7_counted_169 : decode cX7_counted 169 = .ok (.dup, 1) := by decide +kernel
theorem dX7_counted_170 : decode cX7_counted 170 = .ok (.bipush 6, 2) := by decide +kernel
theorem dX7_counted_172 : decode cX7_counted 172 = .ok (.aload_n 0, 1) := by decide +kernel
theorem dX7_counted_173 : decode cX7_counted 173 = .ok (.getfield 22, 3) := by decide +kernel
theorem dX7_counted_176 : decode cX7_counted 176 = .ok (.invokevirtual 151, 3) := by decide +kernel
theorem dX7_counted_179 : decode cX7_counted 179 = .ok (.iastore, 1) := by decide +kernel
theorem dX7_counted_180 : decode cX7_counted 180 = .ok (.dup, 1) := by decide +kernel
theorem dX7_counted_181 : decode cX7_counted 181 = .ok (.bipush 7, 2) := by decide +kernel
theorem dX7_counted_183 : decode cX7_counted 183 = .ok (.iload_n 3, 1) := by decide +kernel
theorem dX7_counted_184 : decode cX7_counted 184 = .ok (.iastore, 1) := by decide +kernel
theorem dX7_counted_185 : decode cX7_counted 185 = .ok (.dup, 1) := by decide +kernel
theorem dX7_counted_186 : decode cX7_counted 186 = .ok (.bipush 8, 2) := by decide +kernel
theorem dX7_counted_188 : decode cX7_counted 188 = .ok (.aload_n 0, 1) := by decide +kernel
theorem dX7_counted_189 : decode cX7_counted 189 = .ok (.getfield 22, 3) := by decide +kernel
theorem dX7_counted_192 : decode cX7_counted 192 = .ok (.getfield 135, 3) := by decide +kernel
theorem dX7_counted_195 : decode cX7_counted 195 = .ok (.iastore, 1) := by decide +kernel
theorem dX7_counted_196 : decode cX7_counted 196 = .ok (.dup, 1) := by decide +kernel
theorem dX7_counted_197 : decode cX7_counted 197 = .ok (.bipush 9, 2) := by decide +kernel
theorem dX7_counted_199 : decode cX7_counted 199 = .ok (.aload_n 0, 1) := by decide +kernel
theorem dX7_counted_200 : decode cX7_counted 200 = .ok (.getfield 22, 3) := by decide +kernel
theorem dX7_counted_203 : decode cX7_counted 203 = .ok (.getfield 154, 3) := by decide +kernel
theorem dX7_counted_206 : decode cX7_counted 206 = .ok (.iastore, 1) := by decide +kernel
theorem dX7_counted_207 : decode cX7_counted 207 = .ok (.dup, 1) := by decide +kernel
theorem dX7_counted_208 : decode cX7_counted 208 = .ok (.bipush 10, 2) := by decide +kernel
theorem dX7_counted_210 : decode cX7_counted 210 = .ok (.iload 4, 2) := by decide +kernel
theorem dX7_counted_212 : decode cX7_counted 212 = .ok (.iastore, 1) := by decide +kernel
theorem dX7_counted_213 : decode cX7_counted 213 = .ok (.astore 5, 2) := by decide +kernel
theorem dX7_counted_215 : decode cX7_counted 215 = .ok (.aload 5, 2) := by decide +kernel
theorem dX7_counted_217 : decode cX7_counted 217 = .ok (.iload_n 1, 1) := by decide +kernel
theorem dX7_counted_218 : decode cX7_counted 218 = .ok (.iaload, 1) := by decide +kernel
theorem dX7_counted_219 : decode cX7_counted 219 = .ok (.ireturn, 1) := by decide +kernel
set_option maxRecDepth 20000 in
theorem ggX7_count_X7_isIn : GoodIn wsX7_count wsX7_isIn := goodIn_r _ [5] (by decide +kernel) (by decide +kernel)
set_option maxRecDepth 20000 in
theorem gX7_count_X7_isIn : GoodIn wsX7_count (va_wsS RX7 35 yX7_isIn wsX7_isIn) := goodIn_app (goodIn_of _ (by decide +kernel)) ggX7_count_X7_isIn
set_option maxRecDepth 20000 in
theorem ggX7_count_X7_counted : GoodIn wsX7_count wsX7_counted := goodIn_r _ [9, 10, 11, 12, 13, 14, 15, 16, 17, 18, 19, 20, 21, 22, 23, 24, 25, 26, 27, 28, 29, 34, 35, 36, 37, 38, 39, 40, 41, 42, 43, 44, 45, 46, 47, 48, 49, 50, 51, 52, 53, 54, 55, 56, 57, 58] (by decide +kernel) (by decide +kernel)
set_option maxRecDepth 20000 in
theorem gX7_count_X7_counted : GoodIn wsX7_count (wsV RX7 157 RX7 yX7_counted wsX7_counted) := goodIn_app (goodIn_of _ (by decide +kernel)) ggX7_count_X7_counted
set_option maxRecDepth 20000 in
theorem ggX7_count_X7_no : GoodIn wsX7_count wsX7_no := goodIn_r _ [33, 1, 34, 35, 36, 37, 38, 39] (by decide +kernel) (by decide +kernel)
set_option maxRecDepth 20000 in
theorem gX7_count_X7_no : GoodIn wsX7_count (wsV RX7 42 RX7 yX7_no wsX7_no) := goodIn_app (goodIn_of _ (by decide +kernel)) ggX7_count_X7_no
theorem dX7_count_0 : decode cX7_count 0 = .ok (.aload_n 0, 1) := by decide +kernel
theorem dX7_count_1 : decode cX7_count 1 = .ok (.iconst 0, 1) := by decide +kernel
theorem dX7_count_2 : decode cX7_count 2 = .ok (.putfield 32, 3) := by decide +kernel
theorem dX7_count_5 : decode cX7_count 5 = .ok (.iload_n 1, 1) := by decide +kernel
theorem dX7_count_6 : decode cX7_count 6 = .ok (.iconst 0, 1) := by decide +kernel
theorem dX7_count_7 : decode cX7_count 7 = .ok (.bipush 10, 2) := by decide +kernel
theorem dX7_count_9 : decode cX7_count 9 = .ok (.invokestatic 35, 3) := by decide +kernel
theorem dX7_count_12 : decode cX7_count 12 = .ok (.ifCond .eq 11, 3) := by decide +kernel
theorem dX7_count_15 : decode cX7_count 15 = .ok (.aload_n 0, 1) := by decide +kernel
theorem dX7_count_16 : decode cX7_count 16 = .ok (.iload_n 1, 1) := by decide +kernel
theorem dX7_count_17 : decode cX7_count 17 = .ok (.invokevirtual 157, 3) := by decide +kernel
theorem dX7_count_20 : decode cX7_count 20 = .ok (.goto 8, 3) := by decide +kernel
theorem dX7_count_23 : decode cX7_count 23 = .ok (.aload_n 0, 1) := by decide +kernel
theorem dX7_count_24 : decode cX7_count 24 = .ok (.iconst 1, 1) := by decide +kernel
theorem dX7_count_25 : decode cX7_count 25 = .ok (.invokevirtual 42, 3) := by decide +kernel
theorem dX7_count_28 : decode cX7_count 28 = .ok (.ireturn, 1) := by decide +kernel
set_option maxRecDepth 20000 in
theorem ggX7_next_X7_isPole : GoodIn wsX7_next wsX7_isPole := goodIn_r _ [9, 10, 11, 12, 8, 13, 101, 102, 103, 104, 105, 106] (by decide +kernel) (by decide +kernel)
set_option maxRecDepth 20000 in
theorem gX7_next_X7_isPole : GoodIn wsX7_next (wsV RX7 56 RX7 yX7_isPole wsX7_isPole) := goodIn_app (goodIn_of _ (by decide +kernel)) ggX7_next_X7_isPole
set_option maxRecDepth 20000 in
theorem ggX7_next_X7_no : GoodIn wsX7_next wsX7_no := goodIn_r _ [17, 1, 101, 102, 103, 104, 105, 106] (by decide +kernel) (by decide +kernel)
set_option maxRecDepth 20000 in
theorem gX7_next_X7_no : GoodIn wsX7_next (wsV RX7 42 RX7 yX7_no wsX7_no) := goodIn_app (goodIn_of _ (by decide +kernel)) ggX7_next_X7_no
set_option maxRecDepth 20000 in
theorem ggX7_next_X6_become : GoodIn wsX7_next wsX6_become := goodIn_r _ [22, 23, 24, 25, 26, 27, 28, 29, 30, 31, 32, 33, 34, 35, 36, 37, 38, 39, 40, 41, 42, 21, 43, 44, 45, 46, 47, 107, 108, 109, 110, 111, 112, 113, 114, 115, 116, 117, 118, 119, 120, 121, 122, 123, 124, 125] (by decide +kernel) (by decide +kernel)
set_option maxRecDepth 20000 in
theorem gX7_next_X6_become : GoodIn wsX7_next (wsV RX7 160 RX6 yX6_become wsX6_become) := goodIn_app (goodIn_of _ (by decide +kernel)) ggX7_next_X6_become
set_option maxRecDepth 20000 in
theorem ggX7_next_X6_turn : GoodIn wsX7_next wsX6_turn := goodIn_r _ [51, 52, 37, 34, 38, 53, 54, 55, 21, 56, 33, 107, 108, 109, 110, 111, 112, 113, 114, 115, 116, 117, 118, 119, 120, 121, 122, 123, 124, 125, 101, 102, 103, 104, 105, 106] (by decide +kernel) (by decide +kernel)
set_option maxRecDepth 20000 in
theorem gX7_next_X6_turn : GoodIn wsX7_next (wsV RX7 138 RX6 yX6_turn wsX6_turn) := goodIn_app (goodIn_of _ (by decide +kernel)) ggX7_next_X6_turn
set_option maxRecDepth 20000 in
theorem ggX7_next_X6_pass : GoodIn wsX7_next wsX6_pass := goodIn_r _ [60, 26, 31, 30, 32, 52, 23, 27, 61, 62, 63, 64, 65, 66, 67, 68, 69, 70, 21, 71, 53, 54, 55, 56, 34, 33, 72, 73, 74, 75, 28, 76, 77, 78, 79, 37, 35, 38, 80, 81, 82, 83, 84, 39, 85, 86, 87, 88, 89, 90, 91, 92, 24, 36, 93, 94, 95, 96, 29, 25, 97, 98, 99, 100, 107, 108, 109, 110, 111, 112, 113, 114, 115, 116, 117, 118, 119, 120, 121, 122, 123, 124, 125, 101, 102, 103, 104, 105, 106] (by decide +kernel) (by decide +kernel)
set_option maxRecDepth 20000 in
theorem gX7_next_X6_pass : GoodIn wsX7_next (wsV RX7 141 RX6 yX6_pass wsX6_pass) := goodIn_app (goodIn_of _ (by decide +kernel)) ggX7_next_X6_pass
theorem dX7_next_0 : decode cX7_next 0 = .ok (.aload_n 0, 1) := by decide +kernel
theorem dX7_next_1 : decode cX7_next 1 = .ok (.iconst 0, 1) := by decide +kernel
theorem dX7_next_2 : decode cX7_next 2 = .ok (.putfield 32, 3) := by decide +kernel
theorem dX7_next_5 : decode cX7_next 5 = .ok (.aload_n 0, 1) := by decide +kernel
theorem dX7_next_6 : decode cX7_next 6 = .ok (.iload_n 1, 1) := by decide +kernel
theorem dX7_next_7 : decode cX7_next 7 = .ok (.invokevirtual 56, 3) := by decide +kernel
theorem dX7_next_10 : decode cX7_next 10 = .ok (.ifCond .ne 9, 3) := by decide +kernel
theorem dX7_next_13 : decode cX7_next 13 = .ok (.aload_n 0, 1) := by decide +kernel
theorem dX7_next_14 : decode cX7_next 14 = .ok (.iconst 1, 1) := by decide +kernel
theorem dX7_next_15 : decode cX7_next 15 = .ok (.invokevirtual 42, 3) := by decide +kernel
theorem dX7_next_18 : decode cX7_next 18 = .ok (.ireturn, 1) := by decide +kernel
theorem dX7_next_19 : decode cX7_next 19 = .ok (.aload_n 0, 1) := by decide +kernel
theorem dX7_next_20 : decode cX7_next 20 = .ok (.getfield 26, 3) := by decide +kernel
theorem dX7_next_23 : decode cX7_next 23 = .ok (.aload_n 0, 1) := by decide +kernel
theorem dX7_next_24 : decode cX7_next 24 = .ok (.getfield 22, 3) := by decide +kernel
theorem dX7_next_27 : decode cX7_next 27 = .ok (.invokevirtual 160, 3) := by decide +kernel
theorem dX7_next_30 : decode cX7_next 30 = .ok (.iconst 1, 1) := by decide +kernel
theorem dX7_next_31 : decode cX7_next 31 = .ok (.istore_n 2, 1) := by decide +kernel
theorem dX7_next_32 : decode cX7_next 32 = .ok (.iload_n 2, 1) := by decide +kernel
theorem dX7_next_33 : decode cX7_next 33 = .ok (.sipush 150, 3) := by decide +kernel
theorem dX7_next_36 : decode cX7_next 36 = .ok (.if_icmp .gt 67, 3) := by decide +kernel
theorem dX7_next_39 : decode cX7_next 39 = .ok (.aload_n 0, 1) := by decide +kernel
theorem dX7_next_40 : decode cX7_next 40 = .ok (.getfield 26, 3) := by decide +kernel
theorem dX7_next_43 : decode cX7_next 43 = .ok (.invokevirtual 138, 3) := by decide +kernel
theorem dX7_next_46 : decode cX7_next 46 = .ok (.aload_n 0, 1) := by decide +kernel
theorem dX7_next_47 : decode cX7_next 47 = .ok (.getfield 26, 3) := by decide +kernel
theorem dX7_next_50 : decode cX7_next 50 = .ok (.invokevirtual 141, 3) := by decide +kernel
theorem dX7_next_53 : decode cX7_next 53 = .ok (.iconst 0, 1) := by decide +kernel
theorem dX7_next_54 : decode cX7_next 54 = .ok (.istore_n 3, 1) := by decide +kernel
theorem dX7_next_55 : decode cX7_next 55 = .ok (.iload_n 3, 1) := by decide +kernel
theorem dX7_next_56 : decode cX7_next 56 = .ok (.aload_n 0, 1) := by decide +kernel
theorem dX7_next_57 : decode cX7_next 57 = .ok (.getfield 46, 3) := by decide +kernel
theorem dX7_next_60 : decode cX7_next 60 = .ok (.if_icmp .ge 37, 3) := by decide +kernel
theorem dX7_next_63 : decode cX7_next 63 = .ok (.aload_n 0, 1) := by decide +kernel
theorem dX7_next_64 : decode cX7_next 64 = .ok (.getfield 26, 3) := by decide +kernel
theorem dX7_next_67 : decode cX7_next 67 = .ok (.getfield 164, 3) := by decide +kernel
theorem dX7_next_70 : decode cX7_next 70 = .ok (.iload_n 3, 1) := by decide +kernel
theorem dX7_next_71 : decode cX7_next 71 = .ok (.iaload, 1) := by decide +kernel
theorem dX7_next_72 : decode cX7_next 72 = .ok (.iconst 1, 1) := by decide +kernel
theorem dX7_next_73 : decode cX7_next 73 = .ok (.if_icmp .ne 18, 3) := by decide +kernel
theorem dX7_next_76 : decode cX7_next 76 = .ok (.aload_n 0, 1) := by decide +kernel
theorem dX7_next_77 : decode cX7_next 77 = .ok (.getfield 26, 3) := by decide +kernel
theorem dX7_next_80 : decode cX7_next 80 = .ok (.getfield 90, 3) := by decide +kernel
theorem dX7_next_83 : decode cX7_next 83 = .ok (.iload_n 3, 1) := by decide +kernel
theorem dX7_next_84 : decode cX7_next 84 = .ok (.iaload, 1) := by decide +kernel
theorem dX7_next_85 : decode cX7_next 85 = .ok (.iload_n 1, 1) := by decide +kernel
theorem dX7_next_86 : decode cX7_next 86 = .ok (.if_icmp .ne 5, 3) := by decide +kernel
theorem dX7_next_89 : decode cX7_next 89 = .ok (.iload_n 2, 1) := by decide +kernel
theorem dX7_next_90 : decode cX7_next 90 = .ok (.ireturn, 1) := by decide +kernel
theorem dX7_next_91 : decode cX7_next 91 = .ok (.iinc 3 1, 3) := by decide +kernel
theorem dX7_next_94 : decode cX7_next 94 = .ok (.goto (-39), 3) := by decide +kernel
theorem dX7_next_97 : decode cX7_next 97 = .ok (.iinc 2 1, 3) := by decide +kernel
theorem dX7_next_100 : decode cX7_next 100 = .ok (.goto (-68), 3) := by decide +kernel
theorem dX7_next_103 : decode cX7_next 103 = .ok (.iconst (-1), 1) := by decide +kernel
theorem dX7_next_104 : decode cX7_next 104 = .ok (.ireturn, 1) := by decide +kernel
set_option maxRecDepth 20000 in
theorem ggX7_needs_X7_isSection : GoodIn wsX7_needs wsX7_isSection := goodIn_r _ [12, 3, 13, 14, 11, 15, 101, 102, 103, 104, 105, 106, 107, 108, 109, 110, 111, 112, 113, 114, 115, 116, 117, 118, 119, 120, 121, 122, 123, 124, 125] (by decide +kernel) (by decide +kernel)
set_option maxRecDepth 20000 in
theorem gX7_needs_X7_isSection : GoodIn wsX7_needs (wsV RX7 66 RX7 yX7_isSection wsX7_isSection) := goodIn_app (goodIn_of _ (by decide +kernel)) ggX7_needs_X7_isSection
set_option maxRecDepth 20000 in
theorem ggX7_needs_X7_no : GoodIn wsX7_needs wsX7_no := goodIn_r _ [19, 1, 101, 102, 103, 104, 105, 106] (by decide +kernel) (by decide +kernel)
set_option maxRecDepth 20000 in
theorem gX7_needs_X7_no : GoodIn wsX7_needs (wsV RX7 42 RX7 yX7_no wsX7_no) := goodIn_app (goodIn_of _ (by decide +kernel)) ggX7_needs_X7_no
set_option maxRecDepth 20000 in
theorem ggX7_needs_X7_isIn : GoodIn wsX7_needs wsX7_isIn := goodIn_r _ [15] (by decide +kernel) (by decide +kernel)
set_option maxRecDepth 20000 in
theorem gX7_needs_X7_isIn : GoodIn wsX7_needs (va_wsS RX7 35 yX7_isIn wsX7_isIn) := goodIn_app (goodIn_of _ (by decide +kernel)) ggX7_needs_X7_isIn
set_option maxRecDepth 20000 in
theorem ggX7_needs_X6_become : GoodIn wsX7_needs wsX6_become := goodIn_r _ [24, 25, 26, 27, 28, 29, 30, 31, 32, 33, 34, 35, 36, 37, 38, 39, 40, 41, 42, 43, 44, 23, 45, 46, 47, 48, 49, 107, 108, 109, 110, 111, 112, 113, 114, 115, 116, 117, 118, 119, 120, 121, 122, 123, 124, 125] (by decide +kernel) (by decide +kernel)
set_option maxRecDepth 20000 in
theorem gX7_needs_X6_become : GoodIn wsX7_needs (wsV RX7 160 RX6 yX6_become wsX6_become) := goodIn_app (goodIn_of _ (by decide +kernel)) ggX7_needs_X6_become
set_option maxRecDepth 20000 in
theorem ggX7_needs_X6_turn : GoodIn wsX7_needs wsX6_turn := goodIn_r _ [53, 54, 39, 36, 40, 55, 56, 57, 23, 58, 35, 107, 108, 109, 110, 111, 112, 113, 114, 115, 116, 117, 118, 119, 120, 121, 122, 123, 124, 125, 101, 102, 103, 104, 105, 106] (by decide +kernel) (by decide +kernel)
set_option maxRecDepth 20000 in
theorem gX7_needs_X6_turn : GoodIn wsX7_needs (wsV RX7 138 RX6 yX6_turn wsX6_turn) := goodIn_app (goodIn_of _ (by decide +kernel)) ggX7_needs_X6_turn
set_option maxRecDepth 20000 in
theorem ggX7_needs_X6_drawn : GoodIn wsX7_needs wsX6_drawn := goodIn_r _ [62, 54, 55, 56, 57, 23, 58, 36, 35, 63, 64, 65, 66, 30, 67, 68, 69, 70, 39, 37, 71, 5, 6, 7, 40, 107, 108, 109, 110, 111, 112, 113, 114, 115, 116, 117, 118, 119, 120, 121, 122, 123, 124, 125, 101, 102, 103, 104, 105, 106] (by decide +kernel) (by decide +kernel)
set_option maxRecDepth 20000 in
theorem gX7_needs_X6_drawn : GoodIn wsX7_needs (wsV RX7 111 RX6 yX6_drawn wsX6_drawn) := goodIn_app (goodIn_of _ (by decide +kernel)) ggX7_needs_X6_drawn
set_option maxRecDepth 20000 in
theorem ggX7_needs_X6_pass : GoodIn wsX7_needs wsX6_pass := goodIn_r _ [75, 28, 33, 32, 34, 54, 25, 29, 76, 77, 6, 78, 71, 5, 7, 79, 60, 61, 23, 62, 55, 56, 57, 58, 36, 35, 63, 64, 65, 66, 30, 67, 68, 69, 70, 39, 37, 40, 80, 81, 82, 83, 84, 41, 85, 86, 87, 88, 89, 90, 91, 92, 26, 38, 93, 94, 95, 96, 31, 27, 97, 98, 99, 100, 107, 108, 109, 110, 111, 112, 113, 114, 115, 116, 117, 118, 119, 120, 121, 122, 123, 124, 125, 101, 102, 103, 104, 105, 106] (by decide +kernel) (by decide +kernel)
set_option maxRecDepth 20000 in
theorem gX7_needs_X6_pass : GoodIn wsX7_needs (wsV RX7 141 RX6 yX6_pass wsX6_pass) := goodIn_app (goodIn_of _ (by decide +kernel)) ggX7_needs_X6_pass
theorem dX7_needs_0 : decode cX7_needs 0 = .ok (.aload_n 0, 1) := by decide +kernel
theorem dX7_needs_1 : decode cX7_needs 1 = .ok (.iconst 0, 1) := by decide +kernel
theorem dX7_needs_2 : decode cX7_needs 2 = .ok (.putfield 32, 3) := by decide +kernel
theorem dX7_needs_5 : decode cX7_needs 5 = .ok (.aload_n 0, 1) := by decide +kernel
theorem dX7_needs_6 : decode cX7_needs 6 = .ok (.iload_n 1, 1) := by decide +kernel
theorem dX7_needs_7 : decode cX7_needs 7 = .ok (.invokevirtual 66, 3) := by decide +kernel
theorem dX7_needs_10 : decode cX7_needs 10 = .ok (.ifCond .ne 9, 3) := by decide +kernel
theorem dX7_needs_13 : decode cX7_needs 13 = .ok (.aload_n 0, 1) := by decide +kernel
theorem dX7_needs_14 : decode cX7_needs 14 = .ok (.iconst 1, 1) := by decide +kernel
theorem dX7_needs_15 : decode cX7_needs 15 = .ok (.invokevirtual 42, 3) := by decide +kernel
theorem dX7_needs_18 : decode cX7_needs 18 = .ok (.ireturn, 1) := by decide +kernel
theorem dX7_needs_19 : decode cX7_needs 19 = .ok (.iload_n 2, 1) := by decide +kernel
theorem dX7_needs_20 : decode cX7_needs 20 = .ok (.iconst 1, 1) := by decide +kernel
theorem dX7_needs_21 : decode cX7_needs 21 = .ok (.bipush 100, 2) := by decide +kernel
theorem dX7_needs_23 : decode cX7_needs 23 = .ok (.invokestatic 35, 3) := by decide +kernel
theorem dX7_needs_26 : decode cX7_needs 26 = .ok (.ifCond .ne 9, 3) := by decide +kernel
theorem dX7_needs_29 : decode cX7_needs 29 = .ok (.aload_n 0, 1) := by decide +kernel
theorem dX7_needs_30 : decode cX7_needs 30 = .ok (.iconst 2, 1) := by decide +kernel
theorem dX7_needs_31 : decode cX7_needs 31 = .ok (.invokevirtual 42, 3) := by decide +kernel
theorem dX7_needs_34 : decode cX7_needs 34 = .ok (.ireturn, 1) := by decide +kernel
theorem dX7_needs_35 : decode cX7_needs 35 = .ok (.aload_n 0, 1) := by decide +kernel
theorem dX7_needs_36 : decode cX7_needs 36 = .ok (.getfield 26, 3) := by decide +kernel
theorem dX7_needs_39 : decode cX7_needs 39 = .ok (.aload_n 0, 1) := by decide +kernel
theorem dX7_needs_40 : decode cX7_needs 40 = .ok (.getfield 22, 3) := by decide +kernel
theorem dX7_needs_43 : decode cX7_needs 43 = .ok (.invokevirtual 160, 3) := by decide +kernel
theorem dX7_needs_46 : decode cX7_needs 46 = .ok (.iconst 0, 1) := by decide +kernel
theorem dX7_needs_47 : decode cX7_needs 47 = .ok (.istore_n 3, 1) := by decide +kernel
theorem dX7_needs_48 : decode cX7_needs 48 = .ok (.iconst 0, 1) := by decide +kernel
theorem dX7_needs_49 : decode cX7_needs 49 = .ok (.istore 4, 2) := by decide +kernel
theorem dX7_needs_51 : decode cX7_needs 51 = .ok (.iload 4, 2) := by decide +kernel
theorem dX7_needs_53 : decode cX7_needs 53 = .ok (.iload_n 2, 1) := by decide +kernel
theorem dX7_needs_54 : decode cX7_needs 54 = .ok (.if_icmp .ge 36, 3) := by decide +kernel
theorem dX7_needs_57 : decode cX7_needs 57 = .ok (.aload_n 0, 1) := by decide +kernel
theorem dX7_needs_58 : decode cX7_needs 58 = .ok (.getfield 26, 3) := by decide +kernel
theorem dX7_needs_61 : decode cX7_needs 61 = .ok (.invokevirtual 138, 3) := by decide +kernel
theorem dX7_needs_64 : decode cX7_needs 64 = .ok (.iload_n 3, 1) := by decide +kernel
theorem dX7_needs_65 : decode cX7_needs 65 = .ok (.aload_n 0, 1) := by decide +kernel
theorem dX7_needs_66 : decode cX7_needs 66 = .ok (.getfield 26, 3) := by decide +kernel
theorem dX7_needs_69 : decode cX7_needs 69 = .ok (.iload_n 1, 1) := by decide +kernel
theorem dX7_needs_70 : decode cX7_needs 70 = .ok (.invokevirtual 111, 3) := by decide +kernel
theorem dX7_needs_73 : decode cX7_needs 73 = .ok (.invokestatic 75, 3) := by decide +kernel
theorem dX7_needs_76 : decode cX7_needs 76 = .ok (.istore_n 3, 1) := by decide +kernel
theorem dX7_needs_77 : decode cX7_needs 77 = .ok (.aload_n 0, 1) := by decide +kernel
theorem dX7_needs_78 : decode cX7_needs 78 = .ok (.getfield 26, 3) := by decide +kernel
theorem dX7_needs_81 : decode cX7_needs 81 = .ok (.invokevirtual 141, 3) := by decide +kernel
theorem dX7_needs_84 : decode cX7_needs 84 = .ok (.iinc 4 1, 3) := by decide +kernel
theorem dX7_needs_87 : decode cX7_needs 87 = .ok (.goto (-36), 3) := by decide +kernel
theorem dX7_needs_90 : decode cX7_needs 90 = .ok (.iload_n 3, 1) := by decide +kernel
theorem dX7_needs_91 : decode cX7_needs 91 = .ok (.ireturn, 1) := by decide +kernel
set_option maxRecDepth 20000 in
theorem ggX7_look_X6_turn : GoodIn wsX7_look wsX6_turn := goodIn_r _ [6, 7, 8, 9, 10, 11, 12, 13, 5, 14, 15, 79, 80, 81, 82, 83, 84, 85, 86, 87, 88, 89, 90, 91, 92, 93, 94, 95, 96, 97, 73, 74, 75, 76, 77, 78] (by decide +kernel) (by decide +kernel)
set_option maxRecDepth 20000 in
theorem gX7_look_X6_turn : GoodIn wsX7_look (wsV RX7 138 RX6 yX6_turn wsX6_turn) := goodIn_app (goodIn_of _ (by decide +kernel)) ggX7_look_X6_turn
set_option maxRecDepth 20000 in
theorem ggX7_look_X6_pass : GoodIn wsX7_look wsX6_pass := goodIn_r _ [19, 20, 21, 22, 23, 7, 24, 25, 26, 27, 28, 29, 30, 31, 32, 33, 34, 35, 5, 36, 11, 12, 13, 14, 9, 15, 37, 38, 39, 40, 41, 42, 43, 44, 45, 8, 46, 10, 47, 48, 49, 50, 51, 52, 53, 54, 55, 56, 57, 58, 59, 60, 61, 62, 63, 64, 65, 66, 67, 68, 69, 70, 71, 72, 79, 80, 81, 82, 83, 84, 85, 86, 87, 88, 89, 90, 91, 92, 93, 94, 95, 96, 97, 73, 74, 75, 76, 77, 78] (by decide +kernel) (by decide +kernel)
set_option maxRecDepth 20000 in
theorem gX7_look_X6_pass : GoodIn wsX7_look (wsV RX7 141 RX6 yX6_pass wsX6_pass) := goodIn_app (goodIn_of _ (by decide +kernel)) ggX7_look_X6_pass
theorem dX7_look_0 : decode cX7_look 0 = .ok (.iconst 0, 1) := by decide +kernel
theorem dX7_look_1 : decode cX7_look 1 = .ok (.istore_n 2, 1) := by decide +kernel
theorem dX7_look_2 : decode cX7_look 2 = .ok (.iload_n 2, 1) := by decide +kernel
theorem dX7_look_3 : decode cX7_look 3 = .ok (.iload_n 1, 1) := by decide +kernel
theorem dX7_look_4 : decode cX7_look 4 = .ok (.if_icmp .ge 23, 3) := by decide +kernel
theorem dX7_look_7 : decode cX7_look 7 = .ok (.aload_n 0, 1) := by decide +kernel
theorem dX7_look_8 : decode cX7_look 8 = .ok (.getfield 26, 3) := by decide +kernel
theorem dX7_look_11 : decode cX7_look 11 = .ok (.invokevirtual 138, 3) := by decide +kernel
theorem dX7_look_14 : decode cX7_look 14 = .ok (.aload_n 0, 1) := by decide +kernel
theorem dX7_look_15 : decode cX7_look 15 = .ok (.getfield 26, 3) := by decide +kernel
theorem dX7_look_18 : decode cX7_look 18 = .ok (.invokevirtual 141, 3) := by decide +kernel
theorem dX7_look_21 : decode cX7_look 21 = .ok (.iinc 2 1, 3) := by decide +kernel
theorem dX7_look_24 : decode cX7_look 24 = .ok (.goto (-22), 3) := by decide +kernel
theorem dX7_look_27 : decode cX7_look 27 = .ok (.return_, 1) := by decide +kernel
set_option maxRecDepth 20000 in
theorem ggX7_advise_X7_isIn : GoodIn wsX7_advise wsX7_isIn := goodIn_r _ [8] (by decide +kernel) (by decide +kernel)
set_option maxRecDepth 20000 in
theorem gX7_advise_X7_isIn : GoodIn wsX7_advise (va_wsS RX7 35 yX7_isIn wsX7_isIn) := goodIn_app (goodIn_of _ (by decide +kernel)) ggX7_advise_X7_isIn
set_option maxRecDepth 20000 in
theorem ggX7_advise_X7_no : GoodIn wsX7_advise wsX7_no := goodIn_r _ [12, 1, 108, 109, 110, 111, 112, 113] (by decide +kernel) (by decide +kernel)
set_option maxRecDepth 20000 in
theorem gX7_advise_X7_no : GoodIn wsX7_advise (wsV RX7 42 RX7 yX7_no wsX7_no) := goodIn_app (goodIn_of _ (by decide +kernel)) ggX7_advise_X7_no
set_option maxRecDepth 20000 in
theorem ggX7_advise_X6_become : GoodIn wsX7_advise wsX6_become := goodIn_r _ [17, 18, 19, 20, 21, 22, 23, 24, 25, 26, 27, 28, 29, 30, 31, 32, 33, 34, 35, 36, 37, 16, 38, 39, 40, 41, 42, 114, 115, 116, 117, 118, 119, 120, 121, 122, 123, 124, 125, 126, 127, 128, 129, 130, 131, 132] (by decide +kernel) (by decide +kernel)
set_option maxRecDepth 20000 in
theorem gX7_advise_X6_become : GoodIn wsX7_advise (wsV RX7 160 RX6 yX6_become wsX6_become) := goodIn_app (goodIn_of _ (by decide +kernel)) ggX7_advise_X6_become
set_option maxRecDepth 20000 in
theorem ggX7_advise_X7_look : GoodIn wsX7_advise wsX7_look := goodIn_r _ [46, 2, 47, 48, 49, 16, 50, 51, 32, 29, 33, 52, 53, 54, 55, 28, 56, 57, 58, 59, 21, 26, 25, 27, 18, 22, 60, 61, 62, 63, 64, 65, 66, 67, 68, 69, 70, 71, 72, 73, 74, 23, 75, 76, 77, 78, 30, 79, 80, 81, 82, 83, 34, 84, 85, 86, 87, 88, 89, 90, 91, 19, 31, 92, 93, 94, 95, 24, 20, 96, 97, 98, 99, 108, 109, 110, 111, 112, 113, 114, 115, 116, 117, 118, 119, 120, 121, 122, 123, 124, 125, 126, 127, 128, 129, 130, 131, 132] (by decide +kernel) (by decide +kernel)
set_option maxRecDepth 20000 in
theorem gX7_advise_X7_look : GoodIn wsX7_advise (wsV RX7 167 RX7 yX7_look wsX7_look) := goodIn_app (goodIn_of _ (by decide +kernel)) ggX7_advise_X7_look
set_option maxRecDepth 20000 in
theorem ggX7_advise_X7_canCut : GoodIn wsX7_advise wsX7_canCut := goodIn_r _ [103, 4, 3, 108, 109, 110, 111, 112, 113, 114, 115, 116, 117, 118, 119, 120, 121, 122, 123, 124, 125, 126, 127, 128, 129, 130, 131, 132] (by decide +kernel) (by decide +kernel)
set_option maxRecDepth 20000 in
theorem gX7_advise_X7_canCut : GoodIn wsX7_advise (wsV RX7 59 RX7 yX7_canCut wsX7_canCut) := goodIn_app (goodIn_of _ (by decide +kernel)) ggX7_advise_X7_canCut
set_option maxRecDepth 20000 in
theorem ggX7_advise_X6_cut : GoodIn wsX7_advise wsX6_cut := goodIn_r _ [107, 21, 25, 26, 27, 23, 71, 72, 73, 16, 74, 114, 115, 116, 117, 118, 119, 120, 121, 122, 123, 124, 125, 126, 127, 128, 129, 130, 131, 132] (by decide +kernel) (by decide +kernel)
set_option maxRecDepth 20000 in
theorem gX7_advise_X6_cut : GoodIn wsX7_advise (wsV RX7 62 RX6 yX6_cut wsX6_cut) := goodIn_app (goodIn_of _ (by decide +kernel)) ggX7_advise_X6_cut
theorem dX7_advise_0 : decode cX7_advise 0 = .ok (.aload_n 0, 1) := by decide +kernel
theorem dX7_advise_1 : decode cX7_advise 1 = .ok (.iconst 0, 1) := by decide +kernel
theorem dX7_advise_2 : decode cX7_advise 2 = .ok (.putfield 32, 3) := by decide +kernel
theorem dX7_advise_5 : decode cX7_advise 5 = .ok (.iload_n 1, 1) := by decide +kernel
theorem dX7_advise_6 : decode cX7_advise 6 = .ok (.iconst 1, 1) := by decide +kernel
theorem dX7_advise_7 : decode cX7_advise 7 = .ok (.bipush 100, 2) := by decide +kernel
theorem dX7_advise_9 : decode cX7_advise 9 = .ok (.invokestatic 35, 3) := by decide +kernel
theorem dX7_advise_12 : decode cX7_advise 12 = .ok (.ifCond .ne 9, 3) := by decide +kernel
theorem dX7_advise_15 : decode cX7_advise 15 = .ok (.aload_n 0, 1) := by decide +kernel
theorem dX7_advise_16 : decode cX7_advise 16 = .ok (.iconst 1, 1) := by decide +kernel
theorem dX7_advise_17 : decode cX7_advise 17 = .ok (.invokevirtual 42, 3) := by decide +kernel
theorem dX7_advise_20 : decode cX7_advise 20 = .ok (.ireturn, 1) := by decide +kernel
theorem dX7_advise_21 : decode cX7_advise 21 = .ok (.aload_n 0, 1) := by decide +kernel
theorem dX7_advise_22 : decode cX7_advise 22 = .ok (.getfield 26, 3) := by decide +kernel
theorem dX7_advise_25 : decode cX7_advise 25 = .ok (.aload_n 0, 1) := by decide +kernel
theorem dX7_advise_26 : decode cX7_advise 26 = .ok (.getfield 22, 3) := by decide +kernel
theorem dX7_advise_29 : decode cX7_advise 29 = .ok (.invokevirtual 160, 3) := by decide +kernel
theorem dX7_advise_32 : decode cX7_advise 32 = .ok (.aload_n 0, 1) := by decide +kernel
theorem dX7_advise_33 : decode cX7_advise 33 = .ok (.iload_n 1, 1) := by decide +kernel
theorem dX7_advise_34 : decode cX7_advise 34 = .ok (.invokevirtual 167, 3) := by decide +kernel
theorem dX7_advise_37 : decode cX7_advise 37 = .ok (.aload_n 0, 1) := by decide +kernel
theorem dX7_advise_38 : decode cX7_advise 38 = .ok (.getfield 26, 3) := by decide +kernel
theorem dX7_advise_41 : decode cX7_advise 41 = .ok (.getfield 135, 3) := by decide +kernel
theorem dX7_advise_44 : decode cX7_advise 44 = .ok (.istore_n 2, 1) := by decide +kernel
theorem dX7_advise_45 : decode cX7_advise 45 = .ok (.iconst (-1), 1) := by decide +kernel
theorem dX7_advise_46 : decode cX7_advise 46 = .ok (.istore_n 3, 1) := by decide +kernel
theorem dX7_advise_47 : decode cX7_advise 47 = .ok (.iconst 0, 1) := by decide +kernel
theorem dX7_advise_48 : decode cX7_advise 48 = .ok (.istore 4, 2) := by decide +kernel
theorem dX7_advise_50 : decode cX7_advise 50 = .ok (.iload 4, 2) := by decide +kernel
theorem dX7_advise_52 : decode cX7_advise 52 = .ok (.aload_n 0, 1) := by decide +kernel
theorem dX7_advise_53 : decode cX7_advise 53 = .ok (.getfield 7, 3) := by decide +kernel
theorem dX7_advise_56 : decode cX7_advise 56 = .ok (.if_icmp .ge 71, 3) := by decide +kernel
theorem dX7_advise_59 : decode cX7_advise 59 = .ok (.aload_n 0, 1) := by decide +kernel
theorem dX7_advise_60 : decode cX7_advise 60 = .ok (.iload 4, 2) := by decide +kernel
theorem dX7_advise_62 : decode cX7_advise 62 = .ok (.invokevirtual 59, 3) := by decide +kernel
theorem dX7_advise_65 : decode cX7_advise 65 = .ok (.ifCond .ne 6, 3) := by decide +kernel
theorem dX7_advise_68 : decode cX7_advise 68 = .ok (.goto 53, 3) := by decide +kernel
theorem dX7_advise_71 : decode cX7_advise 71 = .ok (.aload_n 0, 1) := by decide +kernel
theorem dX7_advise_72 : decode cX7_advise 72 = .ok (.getfield 26, 3) := by decide +kernel
theorem dX7_advise_75 : decode cX7_advise 75 = .ok (.aload_n 0, 1) := by decide +kernel
theorem dX7_advise_76 : decode cX7_advise 76 = .ok (.getfield 22, 3) := by decide +kernel
theorem dX7_advise_79 : decode cX7_advise 79 = .ok (.invokevirtual 160, 3) := by decide +kernel
theorem dX7_advise_82 : decode cX7_advise 82 = .ok (.aload_n 0, 1) := by decide +kernel
theorem dX7_advise_83 : decode cX7_advise 83 = .ok (.getfield 26, 3) := by decide +kernel
theorem dX7_advise_86 : decode cX7_advise 86 = .ok (.iload 4, 2) := by decide +kernel
theorem dX7_advise_88 : decode cX7_advise 88 = .ok (.invokevirtual 62, 3) := by decide +kernel
theorem dX7_advise_91 : decode cX7_advise 91 = .ok (.aload_n 0, 1) := by decide +kernel
theorem dX7_advise_92 : decode cX7_advise 92 = .ok (.iload_n 1, 1) := by decide +kernel
theorem dX7_advise_93 : decode cX7_advise 93 = .ok (.invokevirtual 167, 3) := by decide +kernel
theorem dX7_advise_96 : decode cX7_advise 96 = .ok (.aload_n 0, 1) := by decide +kernel
theorem dX7_advise_97 : decode cX7_advise 97 = .ok (.getfield 26, 3) := by decide +kernel
theorem dX7_advise_100 : decode cX7_advise 100 = .ok (.getfield 135, 3) := by decide +kernel
theorem dX7_advise_103 : decode cX7_advise 103 = .ok (.iload_n 2, 1) := by decide +kernel
theorem dX7_advise_104 : decode cX7_advise 104 = .ok (.if_icmp .gt 6, 3) := by decide +kernel
theorem dX7_advise_107 : decode cX7_advise 107 = .ok (.goto 14, 3) := by decide +kernel
theorem dX7_advise_110 : decode cX7_advise 110 = .ok (.aload_n 0, 1) := by decide +kernel
theorem dX7_advise_111 : decode cX7_advise 111 = .ok (.getfield 26, 3) := by decide +kernel
theorem dX7_advise_114 : decode cX7_advise 114 = .ok (.getfield 135, 3) := by decide +kernel
theorem dX7_advise_117 : decode cX7_advise 117 = .ok (.istore_n 2, 1) := by decide +kernel
theorem dX7_advise_118 : decode cX7_advise 118 = .ok (.iload 4, 2) := by decide +kernel
theorem dX7_advise_120 : decode cX7_advise 120 = .ok (.istore_n 3, 1) := by decide +kernel
theorem dX7_advise_121 : decode cX7_advise 121 = .ok (.iinc 4 1, 3) := by decide +kernel
theorem dX7_advise_124 : decode cX7_advise 124 = .ok (.goto (-74), 3) := by decide +kernel
theorem dX7_advise_127 : decode cX7_advise 127 = .ok (.iload_n 3, 1) := by decide +kernel
theorem dX7_advise_128 : decode cX7_advise 128 = .ok (.ireturn, 1) := by decide +kernel
set_option maxRecDepth 20000 in
theorem ggX7_foresee_X7_isIn : GoodIn wsX7_foresee wsX7_isIn := goodIn_r _ [7] (by decide +kernel) (by decide +kernel)
set_option maxRecDepth 20000 in
theorem gX7_foresee_X7_isIn : GoodIn wsX7_foresee (va_wsS RX7 35 yX7_isIn wsX7_isIn) := goodIn_app (goodIn_of _ (by decide +kernel)) ggX7_foresee_X7_isIn
set_option maxRecDepth 20000 in
theorem ggX7_foresee_X7_no : GoodIn wsX7_foresee wsX7_no := goodIn_r _ [11, 1, 107, 108, 109, 110, 111, 112] (by decide +kernel) (by decide +kernel)
set_option maxRecDepth 20000 in
theorem gX7_foresee_X7_no : GoodIn wsX7_foresee (wsV RX7 42 RX7 yX7_no wsX7_no) := goodIn_app (goodIn_of _ (by decide +kernel)) ggX7_foresee_X7_no
set_option maxRecDepth 20000 in
theorem ggX7_foresee_X6_become : GoodIn wsX7_foresee wsX6_become := goodIn_r _ [16, 17, 18, 19, 20, 21, 22, 23, 24, 25, 26, 27, 28, 29, 30, 31, 32, 33, 34, 35, 36, 15, 37, 38, 39, 40, 41, 113, 114, 115, 116, 117, 118, 119, 120, 121, 122, 123, 124, 125, 126, 127, 128, 129, 130, 131] (by decide +kernel) (by decide +kernel)
set_option maxRecDepth 20000 in
theorem gX7_foresee_X6_become : GoodIn wsX7_foresee (wsV RX7 160 RX6 yX6_become wsX6_become) := goodIn_app (goodIn_of _ (by decide +kernel)) ggX7_foresee_X6_become
set_option maxRecDepth 20000 in
theorem ggX7_foresee_X7_look : GoodIn wsX7_foresee wsX7_look := goodIn_r _ [45, 2, 46, 47, 48, 15, 49, 50, 31, 28, 32, 51, 52, 53, 54, 27, 55, 56, 57, 58, 20, 25, 24, 26, 17, 21, 59, 60, 61, 62, 63, 64, 65, 66, 67, 68, 69, 70, 71, 72, 73, 22, 74, 75, 76, 77, 29, 78, 79, 80, 81, 82, 33, 83, 84, 85, 86, 87, 88, 89, 90, 18, 30, 91, 92, 93, 94, 23, 19, 95, 96, 97, 98, 107, 108, 109, 110, 111, 112, 113, 114, 115, 116, 117, 118, 119, 120, 121, 122, 123, 124, 125, 126, 127, 128, 129, 130, 131] (by decide +kernel) (by decide +kernel)
set_option maxRecDepth 20000 in
theorem gX7_foresee_X7_look : GoodIn wsX7_foresee (wsV RX7 167 RX7 yX7_look wsX7_look) := goodIn_app (goodIn_of _ (by decide +kernel)) ggX7_foresee_X7_look
set_option maxRecDepth 20000 in
theorem ggX7_foresee_X6_waiting : GoodIn wsX7_foresee wsX6_waiting := goodIn_r _ [102, 50, 21, 113, 114, 115, 116, 117, 118, 119, 120, 121, 122, 123, 124, 125, 126, 127, 128, 129, 130, 131, 107, 108, 109, 110, 111, 112] (by decide +kernel) (by decide +kernel)
set_option maxRecDepth 20000 in
theorem gX7_foresee_X6_waiting : GoodIn wsX7_foresee (wsV RX7 151 RX6 yX6_waiting wsX6_waiting) := goodIn_app (goodIn_of _ (by decide +kernel)) ggX7_foresee_X6_waiting
set_option maxRecDepth 20000 in
theorem ggX7_foresee_X6_brokenOnes : GoodIn wsX7_foresee wsX6_brokenOnes := goodIn_r _ [106, 50, 31, 113, 114, 115, 116, 117, 118, 119, 120, 121, 122, 123, 124, 125, 126, 127, 128, 129, 130, 131, 107, 108, 109, 110, 111, 112] (by decide +kernel) (by decide +kernel)
set_option maxRecDepth 20000 in
theorem gX7_foresee_X6_brokenOnes : GoodIn wsX7_foresee (wsV RX7 147 RX6 yX6_brokenOnes wsX6_brokenOnes) := goodIn_app (goodIn_of _ (by decide +kernel)) ggX7_foresee_X6_brokenOnes
theorem dX7_foresee_0 : decode cX7_foresee 0 = .ok (.aload_n 0, 1) := by decide +kernel
theorem dX7_foresee_1 : decode cX7_foresee 1 = .ok (.iconst 0, 1) := by decide +kernel
theorem dX7_foresee_2 : decode cX7_foresee 2 = .ok (.putfield 32, 3) := by decide +kernel
theorem dX7_foresee_5 : decode cX7_foresee 5 = .ok (.iload_n 1, 1) := by decide +kernel
theorem dX7_foresee_6 : decode cX7_foresee 6 = .ok (.iconst 1, 1) := by decide +kernel
theorem dX7_foresee_7 : decode cX7_foresee 7 = .ok (.sipush 150, 3) := by decide +kernel
theorem dX7_foresee_10 : decode cX7_foresee 10 = .ok (.invokestatic 35, 3) := by decide +kernel
theorem dX7_foresee_13 : decode cX7_foresee 13 = .ok (.ifCond .ne 9, 3) := by decide +kernel
theorem dX7_foresee_16 : decode cX7_foresee 16 = .ok (.aload_n 0, 1) := by decide +kernel
theorem dX7_foresee_17 : decode cX7_foresee 17 = .ok (.iconst 1, 1) := by decide +kernel
theorem dX7_foresee_18 : decode cX7_foresee 18 = .ok (.invokevirtual 42, 3) := by decide +kernel
theorem dX7_foresee_21 : decode cX7_foresee 21 = .ok (.ireturn, 1) := by decide +kernel
theorem dX7_foresee_22 : decode cX7_foresee 22 = .ok (.iload_n 2, 1) := by decide +kernel
theorem dX7_foresee_23 : decode cX7_foresee 23 = .ok (.iconst 0, 1) := by decide +kernel
theorem dX7_foresee_24 : decode cX7_foresee 24 = .ok (.iconst 2, 1) := by decide +kernel
theorem dX7_foresee_25 : decode cX7_foresee 25 = .ok (.invokestatic 35, 3) := by decide +kernel
theorem dX7_foresee_28 : decode cX7_foresee 28 = .ok (.ifCond .ne 9, 3) := by decide +kernel
theorem dX7_foresee_31 : decode cX7_foresee 31 = .ok (.aload_n 0, 1) := by decide +kernel
theorem dX7_foresee_32 : decode cX7_foresee 32 = .ok (.iconst 2, 1) := by decide +kernel
theorem dX7_foresee_33 : decode cX7_foresee 33 = .ok (.invokevirtual 42, 3) := by decide +kernel
theorem dX7_foresee_36 : decode cX7_foresee 36 = .ok (.ireturn, 1) := by decide +kernel
theorem dX7_foresee_37 : decode cX7_foresee 37 = .ok (.aload_n 0, 1) := by decide +kernel
theorem dX7_foresee_38 : decode cX7_foresee 38 = .ok (.getfield 26, 3) := by decide +kernel
theorem dX7_foresee_41 : decode cX7_foresee 41 = .ok (.aload_n 0, 1) := by decide +kernel
theorem dX7_foresee_42 : decode cX7_foresee 42 = .ok (.getfield 22, 3) := by decide +kernel
theorem dX7_foresee_45 : decode cX7_foresee 45 = .ok (.invokevirtual 160, 3) := by decide +kernel
theorem dX7_foresee_48 : decode cX7_foresee 48 = .ok (.aload_n 0, 1) := by decide +kernel
theorem dX7_foresee_49 : decode cX7_foresee 49 = .ok (.iload_n 1, 1) := by decide +kernel
theorem dX7_foresee_50 : decode cX7_foresee 50 = .ok (.invokevirtual 167, 3) := by decide +kernel
theorem dX7_foresee_53 : decode cX7_foresee 53 = .ok (.iload_n 2, 1) := by decide +kernel
theorem dX7_foresee_54 : decode cX7_foresee 54 = .ok (.ifCond .ne 21, 3) := by decide +kernel
theorem dX7_foresee_57 : decode cX7_foresee 57 = .ok (.aload_n 0, 1) := by decide +kernel
theorem dX7_foresee_58 : decode cX7_foresee 58 = .ok (.getfield 26, 3) := by decide +kernel
theorem dX7_foresee_61 : decode cX7_foresee 61 = .ok (.getfield 135, 3) := by decide +kernel
theorem dX7_foresee_64 : decode cX7_foresee 64 = .ok (.aload_n 0, 1) := by decide +kernel
theorem dX7_foresee_65 : decode cX7_foresee 65 = .ok (.getfield 22, 3) := by decide +kernel
theorem dX7_foresee_68 : decode cX7_foresee 68 = .ok (.getfield 135, 3) := by decide +kernel
theorem dX7_foresee_71 : decode cX7_foresee 71 = .ok (.isub, 1) := by decide +kernel
theorem dX7_foresee_72 : decode cX7_foresee 72 = .ok (.goto 25, 3) := by decide +kernel
theorem dX7_foresee_75 : decode cX7_foresee 75 = .ok (.iload_n 2, 1) := by decide +kernel
theorem dX7_foresee_76 : decode cX7_foresee 76 = .ok (.iconst 1, 1) := by decide +kernel
theorem dX7_foresee_77 : decode cX7_foresee 77 = .ok (.if_icmp .ne 13, 3) := by decide +kernel
theorem dX7_foresee_80 : decode cX7_foresee 80 = .ok (.aload_n 0, 1) := by decide +kernel
theorem dX7_foresee_81 : decode cX7_foresee 81 = .ok (.getfield 26, 3) := by decide +kernel
theorem dX7_foresee_84 : decode cX7_foresee 84 = .ok (.invokevirtual 151, 3) := by decide +kernel
theorem dX7_foresee_87 : decode cX7_foresee 87 = .ok (.goto 10, 3) := by decide +kernel
theorem dX7_foresee_90 : decode cX7_foresee 90 = .ok (.aload_n 0, 1) := by decide +kernel
theorem dX7_foresee_91 : decode cX7_foresee 91 = .ok (.getfield 26, 3) := by decide +kernel
theorem dX7_foresee_94 : decode cX7_foresee 94 = .ok (.invokevirtual 147, 3) := by decide +kernel
theorem dX7_foresee_97 : decode cX7_foresee 97 = .ok (.ireturn, 1) := by decide +kernel
set_option maxRecDepth 20000 in
theorem ggX7_mean_X6_waiting : GoodIn wsX7_mean wsX6_waiting := goodIn_r _ [8, 9, 10, 17, 18, 19, 20, 21, 22, 23, 24, 25, 26, 27, 28, 29, 30, 31, 32, 33, 34, 35, 11, 12, 13, 14, 15, 16] (by decide +kernel) (by decide +kernel)
set_option maxRecDepth 20000 in
theorem gX7_mean_X6_waiting : GoodIn wsX7_mean (wsV RX7 151 RX6 yX6_waiting wsX6_waiting) := goodIn_app (goodIn_of _ (by decide +kernel)) ggX7_mean_X6_waiting
theorem dX7_mean_0 : decode cX7_mean 0 = .ok (.aload_n 0, 1) := by decide +kernel
theorem dX7_mean_1 : decode cX7_mean 1 = .ok (.iconst 0, 1) := by decide +kernel
theorem dX7_mean_2 : decode cX7_mean 2 = .ok (.putfield 32, 3) := by decide +kernel
theorem dX7_mean_5 : decode cX7_mean 5 = .ok (.aload_n 0, 1) := by decide +kernel
theorem dX7_mean_6 : decode cX7_mean 6 = .ok (.getfield 22, 3) := by decide +kernel
theorem dX7_mean_9 : decode cX7_mean 9 = .ok (.invokevirtual 151, 3) := by decide +kernel
theorem dX7_mean_12 : decode cX7_mean 12 = .ok (.i2d, 1) := by decide +kernel
theorem dX7_mean_13 : decode cX7_mean 13 = .ok (.aload_n 0, 1) := by decide +kernel
theorem dX7_mean_14 : decode cX7_mean 14 = .ok (.getfield 7, 3) := by decide +kernel
theorem dX7_mean_17 : decode cX7_mean 17 = .ok (.i2d, 1) := by decide +kernel
theorem dX7_mean_18 : decode cX7_mean 18 = .ok (.ddiv, 1) := by decide +kernel
theorem dX7_mean_19 : decode cX7_mean 19 = .ok (.dreturn, 1) := by decide +kernel
set_option maxRecDepth 20000 in
theorem ggX7_digest_X7_counted : GoodIn wsX7_digest wsX7_counted := goodIn_r _ [12, 6, 7, 4, 13, 14, 15, 16, 17, 18, 19, 20, 21, 22, 23, 24, 25, 26, 27, 28, 29, 70, 71, 72, 73, 74, 75, 76, 77, 78, 79, 80, 81, 82, 83, 84, 85, 86, 87, 88, 89, 90, 91, 92, 93, 94] (by decide +kernel) (by decide +kernel)
set_option maxRecDepth 20000 in
theorem gX7_digest_X7_counted : GoodIn wsX7_digest (wsV RX7 157 RX7 yX7_counted wsX7_counted) := goodIn_app (goodIn_of _ (by decide +kernel)) ggX7_digest_X7_counted
set_option maxRecDepth 20000 in
theorem ggX7_digest_X7_poleTold : GoodIn wsX7_digest wsX7_poleTold := goodIn_r _ [33, 6, 34, 35, 36, 21, 37, 23, 38, 70, 71, 72, 73, 74, 75, 76, 77, 78, 79, 80, 81, 82, 83, 84, 85, 86, 87, 88, 89, 90, 91, 92, 93, 94] (by decide +kernel) (by decide +kernel)
set_option maxRecDepth 20000 in
theorem gX7_digest_X7_poleTold : GoodIn wsX7_digest (wsV RX7 102 RX7 yX7_poleTold wsX7_poleTold) := goodIn_app (goodIn_of _ (by decide +kernel)) ggX7_digest_X7_poleTold
set_option maxRecDepth 20000 in
theorem ggX7_digest_X6_sectionOf : GoodIn wsX7_digest wsX6_sectionOf := goodIn_r _ [42, 43, 76, 77, 78, 79, 80, 81, 82, 83, 84, 85, 86, 87, 88, 89, 90, 91, 92, 93, 94] (by decide +kernel) (by decide +kernel)
set_option maxRecDepth 20000 in
theorem gX7_digest_X6_sectionOf : GoodIn wsX7_digest (wsV RX7 105 RX6 yX6_sectionOf wsX6_sectionOf) := goodIn_app (goodIn_of _ (by decide +kernel)) ggX7_digest_X6_sectionOf
set_option maxRecDepth 20000 in
theorem ggX7_digest_X7_sectionTold : GoodIn wsX7_digest wsX7_sectionTold := goodIn_r _ [47, 4, 6, 17, 39, 40, 41, 21, 42, 43, 48, 49, 50, 51, 23, 52, 53, 54, 55, 56, 38, 57, 58, 59, 60, 61, 24, 62, 63, 14, 15, 16, 64, 70, 71, 72, 73, 74, 75, 76, 77, 78, 79, 80, 81, 82, 83, 84, 85, 86, 87, 88, 89, 90, 91, 92, 93, 94] (by decide +kernel) (by decide +kernel)
set_option maxRecDepth 20000 in
theorem gX7_digest_X7_sectionTold : GoodIn wsX7_digest (wsV RX7 117 RX7 yX7_sectionTold wsX7_sectionTold) := goodIn_app (goodIn_of _ (by decide +kernel)) ggX7_digest_X7_sectionTold
set_option maxRecDepth 20000 in
theorem ggX7_digest_X7_carTold : GoodIn wsX7_digest wsX7_carTold := goodIn_r _ [68, 17, 6, 69, 59, 60, 21, 61, 24, 62, 56, 23, 63, 14, 15, 16, 64, 52, 53, 54, 55, 38, 70, 71, 72, 73, 74, 75, 76, 77, 78, 79, 80, 81, 82, 83, 84, 85, 86, 87, 88, 89, 90, 91, 92, 93, 94] (by decide +kernel) (by decide +kernel)
set_option maxRecDepth 20000 in
theorem gX7_digest_X7_carTold : GoodIn wsX7_digest (wsV RX7 132 RX7 yX7_carTold wsX7_carTold) := goodIn_app (goodIn_of _ (by decide +kernel)) ggX7_digest_X7_carTold
theorem dX7_digest_0 : decode cX7_digest 0 = .ok (.aload_n 0, 1) := by decide +kernel
theorem dX7_digest_1 : decode cX7_digest 1 = .ok (.iconst 0, 1) := by decide +kernel
theorem dX7_digest_2 : decode cX7_digest 2 = .ok (.putfield 32, 3) := by decide +kernel
theorem dX7_digest_5 : decode cX7_digest 5 = .ok (.ldc2_w 170, 3) := by decide +kernel
theorem dX7_digest_8 : decode cX7_digest 8 = .ok (.lstore_n 1, 1) := by decide +kernel
theorem dX7_digest_9 : decode cX7_digest 9 = .ok (.iconst 0, 1) := by decide +kernel
theorem dX7_digest_10 : decode cX7_digest 10 = .ok (.istore_n 3, 1) := by decide +kernel
theorem dX7_digest_11 : decode cX7_digest 11 = .ok (.iload_n 3, 1) := by decide +kernel
theorem dX7_digest_12 : decode cX7_digest 12 = .ok (.bipush 11, 2) := by decide +kernel
theorem dX7_digest_14 : decode cX7_digest 14 = .ok (.if_icmp .ge 22, 3) := by decide +kernel
theorem dX7_digest_17 : decode cX7_digest 17 = .ok (.lload_n 1, 1) := by decide +kernel
theorem dX7_digest_18 : decode cX7_digest 18 = .ok (.ldc2_w 172, 3) := by decide +kernel
theorem dX7_digest_21 : decode cX7_digest 21 = .ok (.lmul, 1) := by decide +kernel
theorem dX7_digest_22 : decode cX7_digest 22 = .ok (.aload_n 0, 1) := by decide +kernel
theorem dX7_digest_23 : decode cX7_digest 23 = .ok (.iload_n 3, 1) := by decide +kernel
theorem dX7_digest_24 : decode cX7_digest 24 = .ok (.invokevirtual 157, 3) := by decide +kernel
theorem dX7_digest_27 : decode cX7_digest 27 = .ok (.i2l, 1) := by decide +kernel
theorem dX7_digest_28 : decode cX7_digest 28 = .ok (.ladd, 1) := by decide +kernel
theorem dX7_digest_29 : decode cX7_digest 29 = .ok (.lstore_n 1, 1) := by decide +kernel
theorem dX7_digest_30 : decode cX7_digest 30 = .ok (.iinc 3 1, 3) := by decide +kernel
theorem dX7_digest_33 : decode cX7_digest 33 = .ok (.goto (-22), 3) := by decide +kernel
theorem dX7_digest_36 : decode cX7_digest 36 = .ok (.iconst 0, 1) := by decide +kernel
theorem dX7_digest_37 : decode cX7_digest 37 = .ok (.istore_n 3, 1) := by decide +kernel
theorem dX7_digest_38 : decode cX7_digest 38 = .ok (.iload_n 3, 1) := by decide +kernel
theorem dX7_digest_39 : decode cX7_digest 39 = .ok (.aload_n 0, 1) := by decide +kernel
theorem dX7_digest_40 : decode cX7_digest 40 = .ok (.getfield 7, 3) := by decide +kernel
theorem dX7_digest_43 : decode cX7_digest 43 = .ok (.if_icmp .ge 39, 3) := by decide +kernel
theorem dX7_digest_46 : decode cX7_digest 46 = .ok (.iconst 0, 1) := by decide +kernel
theorem dX7_digest_47 : decode cX7_digest 47 = .ok (.istore 4, 2) := by decide +kernel
theorem dX7_digest_49 : decode cX7_digest 49 = .ok (.iload 4, 2) := by decide +kernel
theorem dX7_digest_51 : decode cX7_digest 51 = .ok (.iconst 4, 1) := by decide +kernel
theorem dX7_digest_52 : decode cX7_digest 52 = .ok (.if_icmp .ge 24, 3) := by decide +kernel
theorem dX7_digest_55 : decode cX7_digest 55 = .ok (.lload_n 1, 1) := by decide +kernel
theorem dX7_digest_56 : decode cX7_digest 56 = .ok (.ldc2_w 172, 3) := by decide +kernel
theorem dX7_digest_59 : decode cX7_digest 59 = .ok (.lmul, 1) := by decide +kernel
theorem dX7_digest_60 : decode cX7_digest 60 = .ok (.aload_n 0, 1) := by decide +kernel
theorem dX7_digest_61 : decode cX7_digest 61 = .ok (.iload_n 3, 1) := by decide +kernel
theorem dX7_digest_62 : decode cX7_digest 62 = .ok (.iload 4, 2) := by decide +kernel
theorem dX7_digest_64 : decode cX7_digest 64 = .ok (.invokevirtual 102, 3) := by decide +kernel
theorem dX7_digest_67 : decode cX7_digest 67 = .ok (.i2l, 1) := by decide +kernel
theorem dX7_digest_68 : decode cX7_digest 68 = .ok (.ladd, 1) := by decide +kernel
theorem dX7_digest_69 : decode cX7_digest 69 = .ok (.lstore_n 1, 1) := by decide +kernel
theorem dX7_digest_70 : decode cX7_digest 70 = .ok (.iinc 4 1, 3) := by decide +kernel
theorem dX7_digest_73 : decode cX7_digest 73 = .ok (.goto (-24), 3) := by decide +kernel
theorem dX7_digest_76 : decode cX7_digest 76 = .ok (.iinc 3 1, 3) := by decide +kernel
theorem dX7_digest_79 : decode cX7_digest 79 = .ok (.goto (-41), 3) := by decide +kernel
theorem dX7_digest_82 : decode cX7_digest 82 = .ok (.iconst 0, 1) := by decide +kernel
theorem dX7_digest_83 : decode cX7_digest 83 = .ok (.istore_n 3, 1) := by decide +kernel
theorem dX7_digest_84 : decode cX7_digest 84 = .ok (.iload_n 3, 1) := by decide +kernel
theorem dX7_digest_85 : decode cX7_digest 85 = .ok (.aload_n 0, 1) := by decide +kernel
theorem dX7_digest_86 : decode cX7_digest 86 = .ok (.getfield 7, 3) := by decide +kernel
theorem dX7_digest_89 : decode cX7_digest 89 = .ok (.iconst 1, 1) := by decide +kernel
theorem dX7_digest_90 : decode cX7_digest 90 = .ok (.isub, 1) := by decide +kernel
theorem dX7_digest_91 : decode cX7_digest 91 = .ok (.if_icmp .ge 37, 3) := by decide +kernel
theorem dX7_digest_94 : decode cX7_digest 94 = .ok (.lload_n 1, 1) := by decide +kernel
theorem dX7_digest_95 : decode cX7_digest 95 = .ok (.ldc2_w 172, 3) := by decide +kernel
theorem dX7_digest_98 : decode cX7_digest 98 = .ok (.lmul, 1) := by decide +kernel
theorem dX7_digest_99 : decode cX7_digest 99 = .ok (.aload_n 0, 1) := by decide +kernel
theorem dX7_digest_100 : decode cX7_digest 100 = .ok (.getfield 13, 3) := by decide +kernel
theorem dX7_digest_103 : decode cX7_digest 103 = .ok (.iload_n 3, 1) := by decide +kernel
theorem dX7_digest_104 : decode cX7_digest 104 = .ok (.iaload, 1) := by decide +kernel
theorem dX7_digest_105 : decode cX7_digest 105 = .ok (.i2l, 1) := by decide +kernel
theorem dX7_digest_106 : decode cX7_digest 106 = .ok (.ladd, 1) := by decide +kernel
theorem dX7_digest_107 : decode cX7_digest 107 = .ok (.ldc2_w 172, 3) := by decide +kernel
theorem dX7_digest_110 : decode cX7_digest 110 = .ok (.lmul, 1) := by decide +kernel
theorem dX7_digest_111 : decode cX7_digest 111 = .ok (.aload_n 0, 1) := by decide +kernel
theorem dX7_digest_112 : decode cX7_digest 112 = .ok (.getfield 22, 3) := by decide +kernel
theorem dX7_digest_115 : decode cX7_digest 115 = .ok (.iload_n 3, 1) := by decide +kernel
theorem dX7_digest_116 : decode cX7_digest 116 = .ok (.invokevirtual 105, 3) := by decide +kernel
theorem dX7_digest_119 : decode cX7_digest 119 = .ok (.i2l, 1) := by decide +kernel
theorem dX7_digest_120 : decode cX7_digest 120 = .ok (.ladd, 1) := by decide +kernel
theorem dX7_digest_121 : decode cX7_digest 121 = .ok (.lstore_n 1, 1) := by decide +kernel
theorem dX7_digest_122 : decode cX7_digest 122 = .ok (.iinc 3 1, 3) := by decide +kernel
theorem dX7_digest_125 : decode cX7_digest 125 = .ok (.goto (-41), 3) := by decide +kernel
theorem dX7_digest_128 : decode cX7_digest 128 = .ok (.iconst 0, 1) := by decide +kernel
theorem dX7_digest_129 : decode cX7_digest 129 = .ok (.istore_n 3, 1) := by decide +kernel
theorem dX7_digest_130 : decode cX7_digest 130 = .ok (.iload_n 3, 1) := by decide +kernel
theorem dX7_digest_131 : decode cX7_digest 131 = .ok (.aload_n 0, 1) := by decide +kernel
theorem dX7_digest_132 : decode cX7_digest 132 = .ok (.getfield 22, 3) := by decide +kernel
theorem dX7_digest_135 : decode cX7_digest 135 = .ok (.getfield 39, 3) := by decide +kernel
theorem dX7_digest_138 : decode cX7_digest 138 = .ok (.if_icmp .ge 40, 3) := by decide +kernel
theorem dX7_digest_141 : decode cX7_digest 141 = .ok (.iconst 0, 1) := by decide +kernel
theorem dX7_digest_142 : decode cX7_digest 142 = .ok (.istore 4, 2) := by decide +kernel
theorem dX7_digest_144 : decode cX7_digest 144 = .ok (.iload 4, 2) := by decide +kernel
theorem dX7_digest_146 : decode cX7_digest 146 = .ok (.bipush 6, 2) := by decide +kernel
theorem dX7_digest_148 : decode cX7_digest 148 = .ok (.if_icmp .ge 24, 3) := by decide +kernel
theorem dX7_digest_151 : decode cX7_digest 151 = .ok (.lload_n 1, 1) := by decide +kernel
theorem dX7_digest_152 : decode cX7_digest 152 = .ok (.ldc2_w 172, 3) := by decide +kernel
theorem dX7_digest_155 : decode cX7_digest 155 = .ok (.lmul, 1) := by decide +kernel
theorem dX7_digest_156 : decode cX7_digest 156 = .ok (.aload_n 0, 1) := by decide +kernel
theorem dX7_digest_157 : decode cX7_digest 157 = .ok (.iload_n 3, 1) := by decide +kernel
theorem dX7_digest_158 : decode cX7_digest 158 = .ok (.iload 4, 2) := by decide +kernel
theorem dX7_digest_160 : decode cX7_digest 160 = .ok (.invokevirtual 117, 3) := by decide +kernel
theorem dX7_digest_163 : decode cX7_digest 163 = .ok (.i2l, 1) := by decide +kernel
theorem dX7_digest_164 : decode cX7_digest 164 = .ok (.ladd, 1) := by decide +kernel
theorem dX7_digest_165 : decode cX7_digest 165 = .ok (.lstore_n 1, 1) := by decide +kernel
theorem dX7_digest_166 : decode cX7_digest 166 = .ok (.iinc 4 1, 3) := by decide +kernel
theorem dX7_digest_169 : decode cX7_digest 169 = .ok (.goto (-25), 3) := by decide +kernel
theorem dX7_digest_172 : decode cX7_digest 172 = .ok (.iinc 3 1, 3) := by decide +kernel
theorem dX7_digest_175 : decode cX7_digest 175 = .ok (.goto (-45), 3) := by decide +kernel
theorem dX7_digest_178 : decode cX7_digest 178 = .ok (.iconst 0, 1) := by decide +kernel
theorem dX7_digest_179 : decode cX7_digest 179 = .ok (.istore_n 3, 1) := by decide +kernel
theorem dX7_digest_180 : decode cX7_digest 180 = .ok (.iload_n 3, 1) := by decide +kernel
theorem dX7_digest_181 : decode cX7_digest 181 = .ok (.aload_n 0, 1) := by decide +kernel
theorem dX7_digest_182 : decode cX7_digest 182 = .ok (.getfield 46, 3) := by decide +kernel
theorem dX7_digest_185 : decode cX7_digest 185 = .ok (.if_icmp .ge 40, 3) := by decide +kernel
theorem dX7_digest_188 : decode cX7_digest 188 = .ok (.iconst 0, 1) := by decide +kernel
theorem dX7_digest_189 : decode cX7_digest 189 = .ok (.istore 4, 2) := by decide +kernel
theorem dX7_digest_191 : decode cX7_digest 191 = .ok (.iload 4, 2) := by decide +kernel
theorem dX7_digest_193 : decode cX7_digest 193 = .ok (.bipush 8, 2) := by decide +kernel
theorem dX7_digest_195 : decode cX7_digest 195 = .ok (.if_icmp .ge 24, 3) := by decide +kernel
theorem dX7_digest_198 : decode cX7_digest 198 = .ok (.lload_n 1, 1) := by decide +kernel
theorem dX7_digest_199 : decode cX7_digest 199 = .ok (.ldc2_w 172, 3) := by decide +kernel
theorem dX7_digest_202 : decode cX7_digest 202 = .ok (.lmul, 1) := by decide +kernel
theorem dX7_digest_203 : decode cX7_digest 203 = .ok (.aload_n 0, 1) := by decide +kernel
theorem dX7_digest_204 : decode cX7_digest 204 = .ok (.iload_n 3, 1) := by decide +kernel
theorem dX7_digest_205 : decode cX7_digest 205 = .ok (.iload 4, 2) := by decide +kernel
theorem dX7_digest_207 : decode cX7_digest 207 = .ok (.invokevirtual 132, 3) := by decide +kernel
theorem dX7_digest_210 : decode cX7_digest 210 = .ok (.i2l, 1) := by decide +kernel
theorem dX7_digest_211 : decode cX7_digest 211 = .ok (.ladd, 1) := by decide +kernel
theorem dX7_digest_212 : decode cX7_digest 212 = .ok (.lstore_n 1, 1) := by decide +kernel
theorem dX7_digest_213 : decode cX7_digest 213 = .ok (.iinc 4 1, 3) := by decide +kernel
theorem dX7_digest_216 : decode cX7_digest 216 = .ok (.goto (-25), 3) := by decide +kernel
theorem dX7_digest_219 : decode cX7_digest 219 = .ok (.iinc 3 1, 3) := by decide +kernel
theorem dX7_digest_222 : decode cX7_digest 222 = .ok (.goto (-42), 3) := by decide +kernel
theorem dX7_digest_225 : decode cX7_digest 225 = .ok (.lload_n 1, 1) := by decide +kernel
theorem dX7_digest_226 : decode cX7_digest 226 = .ok (.lreturn, 1) := by decide +kernel
theorem dJ9_max_7cf53_0 : decode cJ9_max_7cf53 0 = .ok (.iload_n 0, 1) := by decide +kernel
theorem dJ9_max_7cf53_1 : decode cJ9_max_7cf53 1 = .ok (.iload_n 1, 1) := by decide +kernel
theorem dJ9_max_7cf53_2 : decode cJ9_max_7cf53 2 = .ok (.if_icmp .lt 7, 3) := by decide +kernel
theorem dJ9_max_7cf53_5 : decode cJ9_max_7cf53 5 = .ok (.iload_n 0, 1) := by decide +kernel
theorem dJ9_max_7cf53_6 : decode cJ9_max_7cf53 6 = .ok (.goto 4, 3) := by decide +kernel
theorem dJ9_max_7cf53_9 : decode cJ9_max_7cf53 9 = .ok (.iload_n 1, 1) := by decide +kernel
theorem dJ9_max_7cf53_10 : decode cJ9_max_7cf53 10 = .ok (.ireturn, 1) := by decide +kernel
theorem dJ9_min_7cf53_0 : decode cJ9_min_7cf53 0 = .ok (.iload_n 0, 1) := by decide +kernel
theorem dJ9_min_7cf53_1 : decode cJ9_min_7cf53 1 = .ok (.iload_n 1, 1) := by decide +kernel
theorem dJ9_min_7cf53_2 : decode cJ9_min_7cf53 2 = .ok (.if_icmp .gt 7, 3) := by decide +kernel
theorem dJ9_min_7cf53_5 : decode cJ9_min_7cf53 5 = .ok (.iload_n 0, 1) := by decide +kernel
theorem dJ9_min_7cf53_6 : decode cJ9_min_7cf53 6 = .ok (.goto 4, 3) := by decide +kernel
theorem dJ9_min_7cf53_9 : decode cJ9_min_7cf53 9 = .ok (.iload_n 1, 1) := by decide +kernel
theorem dJ9_min_7cf53_10 : decode cJ9_min_7cf53 10 = .ok (.ireturn, 1) := by decide +kernel
