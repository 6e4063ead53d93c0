set_option maxRecDepth 20000 in
theorem ggX5_init_X1_init : GoodIn wsX5_init wsX1_init := goodIn_r _ [11, 12, 2, 3, 13, 14, 15, 16, 17, 18, 19, 20, 21, 22, 23, 24, 25, 26, 27, 28, 29, 30, 31, 32, 33, 34, 35, 36, 37, 38, 39, 40, 41, 42, 43, 44, 45, 46, 47, 48, 49, 50, 51, 52, 53, 54, 55, 56, 57, 58, 59, 60, 61, 62, 63, 64, 65, 66, 67, 68, 69, 70, 71, 72, 73, 74, 75, 76, 77, 78, 79, 80, 81, 82, 91, 92, 93, 94, 95, 96, 97, 98, 99, 83, 84, 85, 86, 87, 88, 100, 101, 102, 103, 104, 105, 106, 107, 108, 109, 110, 111] (by decide +kernel) (by decide +kernel)
set_option maxRecDepth 20000 in
theorem gX5_init_X1_init : GoodIn wsX5_init (wsX1_init) := ggX5_init_X1_init
theorem dX5_init_0 : decode cX5_init 0 = .ok (.aload_n 0, 1) := by decide +kernel
theorem dX5_init_1 : decode cX5_init 1 = .ok (.invokespecial 1, 3) := by decide +kernel
theorem dX5_init_4 : decode cX5_init 4 = .ok (.aload_n 0, 1) := by decide +kernel
theorem dX5_init_5 : decode cX5_init 5 = .ok (.new 7, 3) := by decide +kernel
theorem dX5_init_8 : decode cX5_init 8 = .ok (.dup, 1) := by decide +kernel
theorem dX5_init_9 : decode cX5_init 9 = .ok (.invokespecial 9, 3) := by decide +kernel
theorem dX5_init_12 : decode cX5_init 12 = .ok (.putfield 10, 3) := by decide +kernel
theorem dX5_init_15 : decode cX5_init 15 = .ok (.aload_n 0, 1) := by decide +kernel
theorem dX5_init_16 : decode cX5_init 16 = .ok (.new 7, 3) := by decide +kernel
theorem dX5_init_19 : decode cX5_init 19 = .ok (.dup, 1) := by decide +kernel
theorem dX5_init_20 : decode cX5_init 20 = .ok (.invokespecial 9, 3) := by decide +kernel
theorem dX5_init_23 : decode cX5_init 23 = .ok (.putfield 16, 3) := by decide +kernel
theorem dX5_init_26 : decode cX5_init 26 = .ok (.return_, 1) := by decide +kernel
set_option maxRecDepth 20000 in
theorem ggX5_build_X5_outside : GoodIn wsX5_build wsX5_outside := goodIn_r _ [14] (by decide +kernel) (by decide +kernel)
set_option maxRecDepth 20000 in
theorem gX5_build_X5_outside : GoodIn wsX5_build (va_wsS RX5 19 yX5_outside wsX5_outside) := goodIn_app (goodIn_of _ (by decide +kernel)) ggX5_build_X5_outside
set_option maxRecDepth 20000 in
theorem ggX5_build_X4_lay : GoodIn wsX5_build wsX4_lay := goodIn_r _ [19, 20, 21, 22, 23, 24, 25, 26, 27, 28, 29, 30, 31, 32, 33, 34, 60, 61, 62, 63, 64, 65, 66, 67, 68, 69] (by decide +kernel) (by decide +kernel)
set_option maxRecDepth 20000 in
theorem gX5_build_X4_lay : GoodIn wsX5_build (wsV RX5 54 RX4 yX4_lay wsX4_lay) := goodIn_app (goodIn_of _ (by decide +kernel)) ggX5_build_X4_lay
set_option maxRecDepth 20000 in
theorem ggX5_build_X3_clear : GoodIn wsX5_build wsX3_clear := goodIn_r _ [39, 40, 41, 42, 30, 31, 32, 33, 34, 70, 71, 69] (by decide +kernel) (by decide +kernel)
set_option maxRecDepth 20000 in
theorem gX5_build_X3_clear : GoodIn wsX5_build (wsV RX5 62 RX3 yX3_clear wsX3_clear) := goodIn_app (goodIn_of _ (by decide +kernel)) ggX5_build_X3_clear
theorem dX5_build_0 : decode cX5_build 0 = .ok (.iload_n 1, 1) := by decide +kernel
theorem dX5_build_1 : decode cX5_build 1 = .ok (.iconst 3, 1) := by decide +kernel
theorem dX5_build_2 : decode cX5_build 2 = .ok (.bipush 16, 2) := by decide +kernel
theorem dX5_build_4 : decode cX5_build 4 = .ok (.invokestatic 19, 3) := by decide +kernel
theorem dX5_build_7 : decode cX5_build 7 = .ok (.ifCond .eq 13, 3) := by decide +kernel
theorem dX5_build_10 : decode cX5_build 10 = .ok (.new 23, 3) := by decide +kernel
theorem dX5_build_13 : decode cX5_build 13 = .ok (.dup, 1) := by decide +kernel
theorem dX5_build_14 : decode cX5_build 14 = .ok (.ldc 25, 2) := by decide +kernel
theorem dX5_build_16 : decode cX5_build 16 = .ok (.invokespecial 27, 3) := by decide +kernel
theorem dX5_build_19 : decode cX5_build 19 = .ok (.athrow, 1) := by decide +kernel
theorem dX5_build_20 : decode cX5_build 20 = .ok (.aload_n 0, 1) := by decide +kernel
theorem dX5_build_21 : decode cX5_build 21 = .ok (.getfield 10, 3) := by decide +kernel
theorem dX5_build_24 : decode cX5_build 24 = .ok (.getfield 30, 3) := by decide +kernel
theorem dX5_build_27 : decode cX5_build 27 = .ok (.getfield 34, 3) := by decide +kernel
theorem dX5_build_30 : decode cX5_build 30 = .ok (.ifCond .le 13, 3) := by decide +kernel
theorem dX5_build_33 : decode cX5_build 33 = .ok (.new 40, 3) := by decide +kernel
theorem dX5_build_36 : decode cX5_build 36 = .ok (.dup, 1) := by decide +kernel
theorem dX5_build_37 : decode cX5_build 37 = .ok (.ldc 42, 2) := by decide +kernel
theorem dX5_build_39 : decode cX5_build 39 = .ok (.invokespecial 44, 3) := by decide +kernel
theorem dX5_build_42 : decode cX5_build 42 = .ok (.athrow, 1) := by decide +kernel
theorem dX5_build_43 : decode cX5_build 43 = .ok (.aload_n 0, 1) := by decide +kernel
theorem dX5_build_44 : decode cX5_build 44 = .ok (.getfield 10, 3) := by decide +kernel
theorem dX5_build_47 : decode cX5_build 47 = .ok (.getfield 45, 3) := by decide +kernel
theorem dX5_build_50 : decode cX5_build 50 = .ok (.getfield 49, 3) := by decide +kernel
theorem dX5_build_53 : decode cX5_build 53 = .ok (.istore_n 2, 1) := by decide +kernel
theorem dX5_build_54 : decode cX5_build 54 = .ok (.aload_n 0, 1) := by decide +kernel
theorem dX5_build_55 : decode cX5_build 55 = .ok (.getfield 10, 3) := by decide +kernel
theorem dX5_build_58 : decode cX5_build 58 = .ok (.getfield 45, 3) := by decide +kernel
theorem dX5_build_61 : decode cX5_build 61 = .ok (.iload_n 1, 1) := by decide +kernel
theorem dX5_build_62 : decode cX5_build 62 = .ok (.invokevirtual 54, 3) := by decide +kernel
theorem dX5_build_65 : decode cX5_build 65 = .ok (.aload_n 0, 1) := by decide +kernel
theorem dX5_build_66 : decode cX5_build 66 = .ok (.getfield 10, 3) := by decide +kernel
theorem dX5_build_69 : decode cX5_build 69 = .ok (.getfield 58, 3) := by decide +kernel
theorem dX5_build_72 : decode cX5_build 72 = .ok (.invokevirtual 62, 3) := by decide +kernel
theorem dX5_build_75 : decode cX5_build 75 = .ok (.iload_n 2, 1) := by decide +kernel
theorem dX5_build_76 : decode cX5_build 76 = .ok (.ireturn, 1) := by decide +kernel
set_option maxRecDepth 20000 in
theorem ggX5_setSlope_X5_noSpan : GoodIn wsX5_setSlope wsX5_noSpan := goodIn_r _ [12, 5, 6, 13, 14, 15, 16, 17, 18, 19, 20, 11, 21, 32, 33, 34, 35, 36, 37, 38, 39, 40, 41, 42, 43, 44, 45, 46, 47, 48] (by decide +kernel) (by decide +kernel)
set_option maxRecDepth 20000 in
theorem gX5_setSlope_X5_noSpan : GoodIn wsX5_setSlope (wsV RX5 67 RX5 yX5_noSpan wsX5_noSpan) := goodIn_app (goodIn_of _ (by decide +kernel)) ggX5_setSlope_X5_noSpan
set_option maxRecDepth 20000 in
theorem ggX5_setSlope_X5_outside : GoodIn wsX5_setSlope wsX5_outside := goodIn_r _ [21] (by decide +kernel) (by decide +kernel)
set_option maxRecDepth 20000 in
theorem gX5_setSlope_X5_outside : GoodIn wsX5_setSlope (va_wsS RX5 19 yX5_outside wsX5_outside) := goodIn_app (goodIn_of _ (by decide +kernel)) ggX5_setSlope_X5_outside
set_option maxRecDepth 20000 in
theorem ggX5_setSlope_X2_at : GoodIn wsX5_setSlope wsX2_at := goodIn_r _ [26, 27, 49] (by decide +kernel) (by decide +kernel)
set_option maxRecDepth 20000 in
theorem gX5_setSlope_X2_at : GoodIn wsX5_setSlope (wsV RX5 82 RX2 yX2_at wsX2_at) := goodIn_app (goodIn_of _ (by decide +kernel)) ggX5_setSlope_X2_at
set_option maxRecDepth 20000 in
theorem ggX5_setSlope_X2_set : GoodIn wsX5_setSlope wsX2_set := goodIn_r _ [31, 27, 49] (by decide +kernel) (by decide +kernel)
set_option maxRecDepth 20000 in
theorem gX5_setSlope_X2_set : GoodIn wsX5_setSlope (wsV RX5 88 RX2 yX2_set wsX2_set) := goodIn_app (goodIn_of _ (by decide +kernel)) ggX5_setSlope_X2_set
theorem dX5_setSlope_0 : decode cX5_setSlope 0 = .ok (.aload_n 0, 1) := by decide +kernel
theorem dX5_setSlope_1 : decode cX5_setSlope 1 = .ok (.iload_n 1, 1) := by decide +kernel
theorem dX5_setSlope_2 : decode cX5_setSlope 2 = .ok (.invokevirtual 67, 3) := by decide +kernel
theorem dX5_setSlope_5 : decode cX5_setSlope 5 = .ok (.ifCond .eq 13, 3) := by decide +kernel
theorem dX5_setSlope_8 : decode cX5_setSlope 8 = .ok (.new 71, 3) := by decide +kernel
theorem dX5_setSlope_11 : decode cX5_setSlope 11 = .ok (.dup, 1) := by decide +kernel
theorem dX5_setSlope_12 : decode cX5_setSlope 12 = .ok (.ldc 73, 2) := by decide +kernel
theorem dX5_setSlope_14 : decode cX5_setSlope 14 = .ok (.invokespecial 75, 3) := by decide +kernel
theorem dX5_setSlope_17 : decode cX5_setSlope 17 = .ok (.athrow, 1) := by decide +kernel
theorem dX5_setSlope_18 : decode cX5_setSlope 18 = .ok (.iload_n 2, 1) := by decide +kernel
theorem dX5_setSlope_19 : decode cX5_setSlope 19 = .ok (.bipush (-3), 2) := by decide +kernel
theorem dX5_setSlope_21 : decode cX5_setSlope 21 = .ok (.iconst 3, 1) := by decide +kernel
theorem dX5_setSlope_22 : decode cX5_setSlope 22 = .ok (.invokestatic 19, 3) := by decide +kernel
theorem dX5_setSlope_25 : decode cX5_setSlope 25 = .ok (.ifCond .eq 13, 3) := by decide +kernel
theorem dX5_setSlope_28 : decode cX5_setSlope 28 = .ok (.new 23, 3) := by decide +kernel
theorem dX5_setSlope_31 : decode cX5_setSlope 31 = .ok (.dup, 1) := by decide +kernel
theorem dX5_setSlope_32 : decode cX5_setSlope 32 = .ok (.ldc 76, 2) := by decide +kernel
theorem dX5_setSlope_34 : decode cX5_setSlope 34 = .ok (.invokespecial 27, 3) := by decide +kernel
theorem dX5_setSlope_37 : decode cX5_setSlope 37 = .ok (.athrow, 1) := by decide +kernel
theorem dX5_setSlope_38 : decode cX5_setSlope 38 = .ok (.aload_n 0, 1) := by decide +kernel
theorem dX5_setSlope_39 : decode cX5_setSlope 39 = .ok (.getfield 10, 3) := by decide +kernel
theorem dX5_setSlope_42 : decode cX5_setSlope 42 = .ok (.getfield 45, 3) := by decide +kernel
theorem dX5_setSlope_45 : decode cX5_setSlope 45 = .ok (.getfield 78, 3) := by decide +kernel
theorem dX5_setSlope_48 : decode cX5_setSlope 48 = .ok (.iload_n 1, 1) := by decide +kernel
theorem dX5_setSlope_49 : decode cX5_setSlope 49 = .ok (.invokevirtual 82, 3) := by decide +kernel
theorem dX5_setSlope_52 : decode cX5_setSlope 52 = .ok (.istore_n 3, 1) := by decide +kernel
theorem dX5_setSlope_53 : decode cX5_setSlope 53 = .ok (.aload_n 0, 1) := by decide +kernel
theorem dX5_setSlope_54 : decode cX5_setSlope 54 = .ok (.getfield 10, 3) := by decide +kernel
theorem dX5_setSlope_57 : decode cX5_setSlope 57 = .ok (.getfield 45, 3) := by decide +kernel
theorem dX5_setSlope_60 : decode cX5_setSlope 60 = .ok (.getfield 78, 3) := by decide +kernel
theorem dX5_setSlope_63 : decode cX5_setSlope 63 = .ok (.iload_n 1, 1) := by decide +kernel
theorem dX5_setSlope_64 : decode cX5_setSlope 64 = .ok (.iload_n 2, 1) := by decide +kernel
theorem dX5_setSlope_65 : decode cX5_setSlope 65 = .ok (.invokevirtual 88, 3) := by decide +kernel
theorem dX5_setSlope_68 : decode cX5_setSlope 68 = .ok (.iload_n 3, 1) := by decide +kernel
theorem dX5_setSlope_69 : decode cX5_setSlope 69 = .ok (.ireturn, 1) := by decide +kernel
set_option maxRecDepth 20000 in
theorem ggX5_cut_X5_noPole : GoodIn wsX5_cut wsX5_noPole := goodIn_r _ [12, 5, 6, 13, 14, 15, 11, 16, 51, 52, 53, 54, 55, 56, 57, 58, 59, 60, 61, 62, 63, 64, 65, 66, 67] (by decide +kernel) (by decide +kernel)
set_option maxRecDepth 20000 in
theorem gX5_cut_X5_noPole : GoodIn wsX5_cut (wsV RX5 92 RX5 yX5_noPole wsX5_noPole) := goodIn_app (goodIn_of _ (by decide +kernel)) ggX5_cut_X5_noPole
set_option maxRecDepth 20000 in
theorem ggX5_cut_X4_canInsulate : GoodIn wsX5_cut wsX4_canInsulate := goodIn_r _ [21, 22, 23, 24, 25, 26, 27, 28, 29, 59, 60, 61, 62, 63, 64, 65, 66, 67, 68] (by decide +kernel) (by decide +kernel)
set_option maxRecDepth 20000 in
theorem gX5_cut_X4_canInsulate : GoodIn wsX5_cut (wsV RX5 97 RX4 yX4_canInsulate wsX4_canInsulate) := goodIn_app (goodIn_of _ (by decide +kernel)) ggX5_cut_X4_canInsulate
set_option maxRecDepth 20000 in
theorem ggX5_cut_X4_insulate : GoodIn wsX5_cut wsX4_insulate := goodIn_r _ [33, 34, 35, 36, 37, 38, 23, 24, 25, 26, 27, 28, 29, 39, 40, 41, 42, 43, 44, 45, 20, 46, 22, 47, 48, 49, 50, 59, 60, 61, 62, 63, 64, 65, 66, 67, 68] (by decide +kernel) (by decide +kernel)
set_option maxRecDepth 20000 in
theorem gX5_cut_X4_insulate : GoodIn wsX5_cut (wsV RX5 102 RX4 yX4_insulate wsX4_insulate) := goodIn_app (goodIn_of _ (by decide +kernel)) ggX5_cut_X4_insulate
theorem dX5_cut_0 : decode cX5_cut 0 = .ok (.aload_n 0, 1) := by decide +kernel
theorem dX5_cut_1 : decode cX5_cut 1 = .ok (.iload_n 1, 1) := by decide +kernel
theorem dX5_cut_2 : decode cX5_cut 2 = .ok (.invokevirtual 92, 3) := by decide +kernel
theorem dX5_cut_5 : decode cX5_cut 5 = .ok (.ifCond .eq 13, 3) := by decide +kernel
theorem dX5_cut_8 : decode cX5_cut 8 = .ok (.new 71, 3) := by decide +kernel
theorem dX5_cut_11 : decode cX5_cut 11 = .ok (.dup, 1) := by decide +kernel
theorem dX5_cut_12 : decode cX5_cut 12 = .ok (.ldc 95, 2) := by decide +kernel
theorem dX5_cut_14 : decode cX5_cut 14 = .ok (.invokespecial 75, 3) := by decide +kernel
theorem dX5_cut_17 : decode cX5_cut 17 = .ok (.athrow, 1) := by decide +kernel
theorem dX5_cut_18 : decode cX5_cut 18 = .ok (.aload_n 0, 1) := by decide +kernel
theorem dX5_cut_19 : decode cX5_cut 19 = .ok (.getfield 10, 3) := by decide +kernel
theorem dX5_cut_22 : decode cX5_cut 22 = .ok (.getfield 45, 3) := by decide +kernel
theorem dX5_cut_25 : decode cX5_cut 25 = .ok (.iload_n 1, 1) := by decide +kernel
theorem dX5_cut_26 : decode cX5_cut 26 = .ok (.invokevirtual 97, 3) := by decide +kernel
theorem dX5_cut_29 : decode cX5_cut 29 = .ok (.ifCond .ne 13, 3) := by decide +kernel
theorem dX5_cut_32 : decode cX5_cut 32 = .ok (.new 40, 3) := by decide +kernel
theorem dX5_cut_35 : decode cX5_cut 35 = .ok (.dup, 1) := by decide +kernel
theorem dX5_cut_36 : decode cX5_cut 36 = .ok (.ldc 100, 2) := by decide +kernel
theorem dX5_cut_38 : decode cX5_cut 38 = .ok (.invokespecial 44, 3) := by decide +kernel
theorem dX5_cut_41 : decode cX5_cut 41 = .ok (.athrow, 1) := by decide +kernel
theorem dX5_cut_42 : decode cX5_cut 42 = .ok (.aload_n 0, 1) := by decide +kernel
theorem dX5_cut_43 : decode cX5_cut 43 = .ok (.getfield 10, 3) := by decide +kernel
theorem dX5_cut_46 : decode cX5_cut 46 = .ok (.getfield 45, 3) := by decide +kernel
theorem dX5_cut_49 : decode cX5_cut 49 = .ok (.iload_n 1, 1) := by decide +kernel
theorem dX5_cut_50 : decode cX5_cut 50 = .ok (.invokevirtual 102, 3) := by decide +kernel
theorem dX5_cut_53 : decode cX5_cut 53 = .ok (.aload_n 0, 1) := by decide +kernel
theorem dX5_cut_54 : decode cX5_cut 54 = .ok (.getfield 10, 3) := by decide +kernel
theorem dX5_cut_57 : decode cX5_cut 57 = .ok (.getfield 45, 3) := by decide +kernel
theorem dX5_cut_60 : decode cX5_cut 60 = .ok (.getfield 105, 3) := by decide +kernel
theorem dX5_cut_63 : decode cX5_cut 63 = .ok (.ireturn, 1) := by decide +kernel
set_option maxRecDepth 20000 in
theorem ggX5_setBound_X5_noSection : GoodIn wsX5_setBound wsX5_noSection := goodIn_r _ [12, 5, 6, 13, 14, 15, 11, 16, 27, 28, 29, 30, 31, 32, 33, 34, 35, 36, 37, 38, 39, 40, 41, 42, 43] (by decide +kernel) (by decide +kernel)
set_option maxRecDepth 20000 in
theorem gX5_setBound_X5_noSection : GoodIn wsX5_setBound (wsV RX5 108 RX5 yX5_noSection wsX5_noSection) := goodIn_app (goodIn_of _ (by decide +kernel)) ggX5_setBound_X5_noSection
set_option maxRecDepth 20000 in
theorem ggX5_setBound_X5_outside : GoodIn wsX5_setBound wsX5_outside := goodIn_r _ [16] (by decide +kernel) (by decide +kernel)
set_option maxRecDepth 20000 in
theorem gX5_setBound_X5_outside : GoodIn wsX5_setBound (va_wsS RX5 19 yX5_outside wsX5_outside) := goodIn_app (goodIn_of _ (by decide +kernel)) ggX5_setBound_X5_outside
set_option maxRecDepth 20000 in
theorem ggX5_setBound_X2_at : GoodIn wsX5_setBound wsX2_at := goodIn_r _ [21, 22, 44] (by decide +kernel) (by decide +kernel)
set_option maxRecDepth 20000 in
theorem gX5_setBound_X2_at : GoodIn wsX5_setBound (wsV RX5 82 RX2 yX2_at wsX2_at) := goodIn_app (goodIn_of _ (by decide +kernel)) ggX5_setBound_X2_at
set_option maxRecDepth 20000 in
theorem ggX5_setBound_X2_set : GoodIn wsX5_setBound wsX2_set := goodIn_r _ [26, 22, 44] (by decide +kernel) (by decide +kernel)
set_option maxRecDepth 20000 in
theorem gX5_setBound_X2_set : GoodIn wsX5_setBound (wsV RX5 88 RX2 yX2_set wsX2_set) := goodIn_app (goodIn_of _ (by decide +kernel)) ggX5_setBound_X2_set
theorem dX5_setBound_0 : decode cX5_setBound 0 = .ok (.aload_n 0, 1) := by decide +kernel
theorem dX5_setBound_1 : decode cX5_setBound 1 = .ok (.iload_n 1, 1) := by decide +kernel
theorem dX5_setBound_2 : decode cX5_setBound 2 = .ok (.invokevirtual 108, 3) := by decide +kernel
theorem dX5_setBound_5 : decode cX5_setBound 5 = .ok (.ifCond .eq 13, 3) := by decide +kernel
theorem dX5_setBound_8 : decode cX5_setBound 8 = .ok (.new 71, 3) := by decide +kernel
theorem dX5_setBound_11 : decode cX5_setBound 11 = .ok (.dup, 1) := by decide +kernel
theorem dX5_setBound_12 : decode cX5_setBound 12 = .ok (.ldc 111, 2) := by decide +kernel
theorem dX5_setBound_14 : decode cX5_setBound 14 = .ok (.invokespecial 75, 3) := by decide +kernel
theorem dX5_setBound_17 : decode cX5_setBound 17 = .ok (.athrow, 1) := by decide +kernel
theorem dX5_setBound_18 : decode cX5_setBound 18 = .ok (.iload_n 2, 1) := by decide +kernel
theorem dX5_setBound_19 : decode cX5_setBound 19 = .ok (.iconst 1, 1) := by decide +kernel
theorem dX5_setBound_20 : decode cX5_setBound 20 = .ok (.bipush 60, 2) := by decide +kernel
theorem dX5_setBound_22 : decode cX5_setBound 22 = .ok (.invokestatic 19, 3) := by decide +kernel
theorem dX5_setBound_25 : decode cX5_setBound 25 = .ok (.ifCond .eq 13, 3) := by decide +kernel
theorem dX5_setBound_28 : decode cX5_setBound 28 = .ok (.new 23, 3) := by decide +kernel
theorem dX5_setBound_31 : decode cX5_setBound 31 = .ok (.dup, 1) := by decide +kernel
theorem dX5_setBound_32 : decode cX5_setBound 32 = .ok (.ldc 113, 2) := by decide +kernel
theorem dX5_setBound_34 : decode cX5_setBound 34 = .ok (.invokespecial 27, 3) := by decide +kernel
theorem dX5_setBound_37 : decode cX5_setBound 37 = .ok (.athrow, 1) := by decide +kernel
theorem dX5_setBound_38 : decode cX5_setBound 38 = .ok (.aload_n 0, 1) := by decide +kernel
theorem dX5_setBound_39 : decode cX5_setBound 39 = .ok (.getfield 10, 3) := by decide +kernel
theorem dX5_setBound_42 : decode cX5_setBound 42 = .ok (.getfield 45, 3) := by decide +kernel
theorem dX5_setBound_45 : decode cX5_setBound 45 = .ok (.getfield 115, 3) := by decide +kernel
theorem dX5_setBound_48 : decode cX5_setBound 48 = .ok (.iload_n 1, 1) := by decide +kernel
theorem dX5_setBound_49 : decode cX5_setBound 49 = .ok (.invokevirtual 82, 3) := by decide +kernel
theorem dX5_setBound_52 : decode cX5_setBound 52 = .ok (.istore_n 3, 1) := by decide +kernel
theorem dX5_setBound_53 : decode cX5_setBound 53 = .ok (.aload_n 0, 1) := by decide +kernel
theorem dX5_setBound_54 : decode cX5_setBound 54 = .ok (.getfield 10, 3) := by decide +kernel
theorem dX5_setBound_57 : decode cX5_setBound 57 = .ok (.getfield 45, 3) := by decide +kernel
theorem dX5_setBound_60 : decode cX5_setBound 60 = .ok (.getfield 115, 3) := by decide +kernel
theorem dX5_setBound_63 : decode cX5_setBound 63 = .ok (.iload_n 1, 1) := by decide +kernel
theorem dX5_setBound_64 : decode cX5_setBound 64 = .ok (.iload_n 2, 1) := by decide +kernel
theorem dX5_setBound_65 : decode cX5_setBound 65 = .ok (.invokevirtual 88, 3) := by decide +kernel
theorem dX5_setBound_68 : decode cX5_setBound 68 = .ok (.iload_n 3, 1) := by decide +kernel
theorem dX5_setBound_69 : decode cX5_setBound 69 = .ok (.ireturn, 1) := by decide +kernel
set_option maxRecDepth 20000 in
theorem ggX5_depot_X5_noPole : GoodIn wsX5_depot wsX5_noPole := goodIn_r _ [18, 7, 19, 20, 21, 22, 17, 23, 34, 35, 36, 37, 38, 39, 40, 41, 44, 45, 46, 47, 48, 49, 50, 51, 52] (by decide +kernel) (by decide +kernel)
set_option maxRecDepth 20000 in
theorem gX5_depot_X5_noPole : GoodIn wsX5_depot (wsV RX5 92 RX5 yX5_noPole wsX5_noPole) := goodIn_app (goodIn_of _ (by decide +kernel)) ggX5_depot_X5_noPole
set_option maxRecDepth 20000 in
theorem ggX5_depot_X5_outside : GoodIn wsX5_depot wsX5_outside := goodIn_r _ [23] (by decide +kernel) (by decide +kernel)
set_option maxRecDepth 20000 in
theorem gX5_depot_X5_outside : GoodIn wsX5_depot (va_wsS RX5 19 yX5_outside wsX5_outside) := goodIn_app (goodIn_of _ (by decide +kernel)) ggX5_depot_X5_outside
set_option maxRecDepth 20000 in
theorem ggX5_depot_X2_at : GoodIn wsX5_depot wsX2_at := goodIn_r _ [28, 29, 53] (by decide +kernel) (by decide +kernel)
set_option maxRecDepth 20000 in
theorem gX5_depot_X2_at : GoodIn wsX5_depot (wsV RX5 82 RX2 yX2_at wsX2_at) := goodIn_app (goodIn_of _ (by decide +kernel)) ggX5_depot_X2_at
set_option maxRecDepth 20000 in
theorem ggX5_depot_X2_set : GoodIn wsX5_depot wsX2_set := goodIn_r _ [33, 29, 53] (by decide +kernel) (by decide +kernel)
set_option maxRecDepth 20000 in
theorem gX5_depot_X2_set : GoodIn wsX5_depot (wsV RX5 88 RX2 yX2_set wsX2_set) := goodIn_app (goodIn_of _ (by decide +kernel)) ggX5_depot_X2_set
theorem dX5_depot_0 : decode cX5_depot 0 = .ok (.aload_n 0, 1) := by decide +kernel
theorem dX5_depot_1 : decode cX5_depot 1 = .ok (.iload_n 1, 1) := by decide +kernel
theorem dX5_depot_2 : decode cX5_depot 2 = .ok (.invokevirtual 92, 3) := by decide +kernel
theorem dX5_depot_5 : decode cX5_depot 5 = .ok (.ifCond .eq 13, 3) := by decide +kernel
theorem dX5_depot_8 : decode cX5_depot 8 = .ok (.new 71, 3) := by decide +kernel
theorem dX5_depot_11 : decode cX5_depot 11 = .ok (.dup, 1) := by decide +kernel
theorem dX5_depot_12 : decode cX5_depot 12 = .ok (.ldc 95, 2) := by decide +kernel
theorem dX5_depot_14 : decode cX5_depot 14 = .ok (.invokespecial 75, 3) := by decide +kernel
theorem dX5_depot_17 : decode cX5_depot 17 = .ok (.athrow, 1) := by decide +kernel
theorem dX5_depot_18 : decode cX5_depot 18 = .ok (.iload_n 2, 1) := by decide +kernel
theorem dX5_depot_19 : decode cX5_depot 19 = .ok (.iconst 0, 1) := by decide +kernel
theorem dX5_depot_20 : decode cX5_depot 20 = .ok (.bipush 9, 2) := by decide +kernel
theorem dX5_depot_22 : decode cX5_depot 22 = .ok (.invokestatic 19, 3) := by decide +kernel
theorem dX5_depot_25 : decode cX5_depot 25 = .ok (.ifCond .eq 13, 3) := by decide +kernel
theorem dX5_depot_28 : decode cX5_depot 28 = .ok (.new 23, 3) := by decide +kernel
theorem dX5_depot_31 : decode cX5_depot 31 = .ok (.dup, 1) := by decide +kernel
theorem dX5_depot_32 : decode cX5_depot 32 = .ok (.ldc 118, 2) := by decide +kernel
theorem dX5_depot_34 : decode cX5_depot 34 = .ok (.invokespecial 27, 3) := by decide +kernel
theorem dX5_depot_37 : decode cX5_depot 37 = .ok (.athrow, 1) := by decide +kernel
theorem dX5_depot_38 : decode cX5_depot 38 = .ok (.iconst 0, 1) := by decide +kernel
theorem dX5_depot_39 : decode cX5_depot 39 = .ok (.aload_n 0, 1) := by decide +kernel
theorem dX5_depot_40 : decode cX5_depot 40 = .ok (.getfield 10, 3) := by decide +kernel
theorem dX5_depot_43 : decode cX5_depot 43 = .ok (.getfield 58, 3) := by decide +kernel
theorem dX5_depot_46 : decode cX5_depot 46 = .ok (.getfield 120, 3) := by decide +kernel
theorem dX5_depot_49 : decode cX5_depot 49 = .ok (.iload_n 1, 1) := by decide +kernel
theorem dX5_depot_50 : decode cX5_depot 50 = .ok (.invokevirtual 82, 3) := by decide +kernel
theorem dX5_depot_53 : decode cX5_depot 53 = .ok (.invokestatic 123, 3) := by decide +kernel
theorem dX5_depot_56 : decode cX5_depot 56 = .ok (.iload_n 2, 1) := by decide +kernel
theorem dX5_depot_57 : decode cX5_depot 57 = .ok (.iadd, 1) := by decide +kernel
theorem dX5_depot_58 : decode cX5_depot 58 = .ok (.istore_n 3, 1) := by decide +kernel
theorem dX5_depot_59 : decode cX5_depot 59 = .ok (.iload_n 3, 1) := by decide +kernel
theorem dX5_depot_60 : decode cX5_depot 60 = .ok (.bipush 9, 2) := by decide +kernel
theorem dX5_depot_62 : decode cX5_depot 62 = .ok (.if_icmp .le 13, 3) := by decide +kernel
theorem dX5_depot_65 : decode cX5_depot 65 = .ok (.new 40, 3) := by decide +kernel
theorem dX5_depot_68 : decode cX5_depot 68 = .ok (.dup, 1) := by decide +kernel
theorem dX5_depot_69 : decode cX5_depot 69 = .ok (.ldc 129, 2) := by decide +kernel
theorem dX5_depot_71 : decode cX5_depot 71 = .ok (.invokespecial 44, 3) := by decide +kernel
theorem dX5_depot_74 : decode cX5_depot 74 = .ok (.athrow, 1) := by decide +kernel
theorem dX5_depot_75 : decode cX5_depot 75 = .ok (.aload_n 0, 1) := by decide +kernel
theorem dX5_depot_76 : decode cX5_depot 76 = .ok (.getfield 10, 3) := by decide +kernel
theorem dX5_depot_79 : decode cX5_depot 79 = .ok (.getfield 58, 3) := by decide +kernel
theorem dX5_depot_82 : decode cX5_depot 82 = .ok (.getfield 120, 3) := by decide +kernel
theorem dX5_depot_85 : decode cX5_depot 85 = .ok (.iload_n 1, 1) := by decide +kernel
theorem dX5_depot_86 : decode cX5_depot 86 = .ok (.iload_n 3, 1) := by decide +kernel
theorem dX5_depot_87 : decode cX5_depot 87 = .ok (.invokevirtual 88, 3) := by decide +kernel
theorem dX5_depot_90 : decode cX5_depot 90 = .ok (.iload_n 3, 1) := by decide +kernel
theorem dX5_depot_91 : decode cX5_depot 91 = .ok (.ireturn, 1) := by decide +kernel
set_option maxRecDepth 20000 in
theorem ggX5_come_X5_noPole : GoodIn wsX5_come wsX5_noPole := goodIn_r _ [12, 5, 13, 14, 15, 16, 11, 17, 39, 40, 41, 42, 43, 44, 45, 46, 49, 50, 51, 52, 53, 54, 55, 56, 57] (by decide +kernel) (by decide +kernel)
set_option maxRecDepth 20000 in
theorem gX5_come_X5_noPole : GoodIn wsX5_come (wsV RX5 92 RX5 yX5_noPole wsX5_noPole) := goodIn_app (goodIn_of _ (by decide +kernel)) ggX5_come_X5_noPole
set_option maxRecDepth 20000 in
theorem ggX5_come_X5_outside : GoodIn wsX5_come wsX5_outside := goodIn_r _ [17] (by decide +kernel) (by decide +kernel)
set_option maxRecDepth 20000 in
theorem gX5_come_X5_outside : GoodIn wsX5_come (va_wsS RX5 19 yX5_outside wsX5_outside) := goodIn_app (goodIn_of _ (by decide +kernel)) ggX5_come_X5_outside
set_option maxRecDepth 20000 in
theorem ggX5_come_X3_welcome : GoodIn wsX5_come wsX3_welcome := goodIn_r _ [22, 23, 24, 25, 26, 27, 28, 29, 30, 31, 32, 33, 34, 35, 36, 37, 47, 48, 58] (by decide +kernel) (by decide +kernel)
set_option maxRecDepth 20000 in
theorem gX5_come_X3_welcome : GoodIn wsX5_come (wsV RX5 133 RX3 yX3_welcome wsX3_welcome) := goodIn_app (goodIn_of _ (by decide +kernel)) ggX5_come_X3_welcome
set_option maxRecDepth 20000 in
theorem ggX5_come_X2_at : GoodIn wsX5_come wsX2_at := goodIn_r _ [32, 33, 58] (by decide +kernel) (by decide +kernel)
set_option maxRecDepth 20000 in
theorem gX5_come_X2_at : GoodIn wsX5_come (wsV RX5 82 RX2 yX2_at wsX2_at) := goodIn_app (goodIn_of _ (by decide +kernel)) ggX5_come_X2_at
theorem dX5_come_0 : decode cX5_come 0 = .ok (.aload_n 0, 1) := by decide +kernel
theorem dX5_come_1 : decode cX5_come 1 = .ok (.iload_n 1, 1) := by decide +kernel
theorem dX5_come_2 : decode cX5_come 2 = .ok (.invokevirtual 92, 3) := by decide +kernel
theorem dX5_come_5 : decode cX5_come 5 = .ok (.ifCond .eq 13, 3) := by decide +kernel
theorem dX5_come_8 : decode cX5_come 8 = .ok (.new 71, 3) := by decide +kernel
theorem dX5_come_11 : decode cX5_come 11 = .ok (.dup, 1) := by decide +kernel
theorem dX5_come_12 : decode cX5_come 12 = .ok (.ldc 95, 2) := by decide +kernel
theorem dX5_come_14 : decode cX5_come 14 = .ok (.invokespecial 75, 3) := by decide +kernel
theorem dX5_come_17 : decode cX5_come 17 = .ok (.athrow, 1) := by decide +kernel
theorem dX5_come_18 : decode cX5_come 18 = .ok (.iload_n 2, 1) := by decide +kernel
theorem dX5_come_19 : decode cX5_come 19 = .ok (.iconst 1, 1) := by decide +kernel
theorem dX5_come_20 : decode cX5_come 20 = .ok (.bipush 99, 2) := by decide +kernel
theorem dX5_come_22 : decode cX5_come 22 = .ok (.invokestatic 19, 3) := by decide +kernel
theorem dX5_come_25 : decode cX5_come 25 = .ok (.ifCond .eq 13, 3) := by decide +kernel
theorem dX5_come_28 : decode cX5_come 28 = .ok (.new 23, 3) := by decide +kernel
theorem dX5_come_31 : decode cX5_come 31 = .ok (.dup, 1) := by decide +kernel
theorem dX5_come_32 : decode cX5_come 32 = .ok (.ldc 131, 2) := by decide +kernel
theorem dX5_come_34 : decode cX5_come 34 = .ok (.invokespecial 27, 3) := by decide +kernel
theorem dX5_come_37 : decode cX5_come 37 = .ok (.athrow, 1) := by decide +kernel
theorem dX5_come_38 : decode cX5_come 38 = .ok (.aload_n 0, 1) := by decide +kernel
theorem dX5_come_39 : decode cX5_come 39 = .ok (.getfield 10, 3) := by decide +kernel
theorem dX5_come_42 : decode cX5_come 42 = .ok (.getfield 58, 3) := by decide +kernel
theorem dX5_come_45 : decode cX5_come 45 = .ok (.iload_n 1, 1) := by decide +kernel
theorem dX5_come_46 : decode cX5_come 46 = .ok (.iload_n 2, 1) := by decide +kernel
theorem dX5_come_47 : decode cX5_come 47 = .ok (.invokevirtual 133, 3) := by decide +kernel
theorem dX5_come_50 : decode cX5_come 50 = .ok (.aload_n 0, 1) := by decide +kernel
theorem dX5_come_51 : decode cX5_come 51 = .ok (.getfield 10, 3) := by decide +kernel
theorem dX5_come_54 : decode cX5_come 54 = .ok (.getfield 58, 3) := by decide +kernel
theorem dX5_come_57 : decode cX5_come 57 = .ok (.getfield 136, 3) := by decide +kernel
theorem dX5_come_60 : decode cX5_come 60 = .ok (.iload_n 1, 1) := by decide +kernel
theorem dX5_come_61 : decode cX5_come 61 = .ok (.invokevirtual 82, 3) := by decide +kernel
theorem dX5_come_64 : decode cX5_come 64 = .ok (.ireturn, 1) := by decide +kernel
set_option maxRecDepth 20000 in
theorem ggX5_put_X5_noPole : GoodIn wsX5_put wsX5_noPole := goodIn_r _ [14, 7, 15, 16, 17, 18, 13, 19, 44, 45, 46, 47, 48, 49, 50, 51, 61, 62, 63, 64, 65, 66, 67, 68, 69] (by decide +kernel) (by decide +kernel)
set_option maxRecDepth 20000 in
theorem gX5_put_X5_noPole : GoodIn wsX5_put (wsV RX5 92 RX5 yX5_noPole wsX5_noPole) := goodIn_app (goodIn_of _ (by decide +kernel)) ggX5_put_X5_noPole
set_option maxRecDepth 20000 in
theorem ggX5_put_X5_outside : GoodIn wsX5_put wsX5_outside := goodIn_r _ [19] (by decide +kernel) (by decide +kernel)
set_option maxRecDepth 20000 in
theorem gX5_put_X5_outside : GoodIn wsX5_put (va_wsS RX5 19 yX5_outside wsX5_outside) := goodIn_app (goodIn_of _ (by decide +kernel)) ggX5_put_X5_outside
set_option maxRecDepth 20000 in
theorem ggX5_put_X0_carsAt : GoodIn wsX5_put wsX0_carsAt := goodIn_r _ [24, 25, 26, 27, 28, 29, 30, 31, 32, 52, 53, 54, 55, 56, 57, 58, 59, 60, 70] (by decide +kernel) (by decide +kernel)
set_option maxRecDepth 20000 in
theorem gX5_put_X0_carsAt : GoodIn wsX5_put (wsV RX5 141 RX0 yX0_carsAt wsX0_carsAt) := goodIn_app (goodIn_of _ (by decide +kernel)) ggX5_put_X0_carsAt
set_option maxRecDepth 20000 in
theorem ggX5_put_X0_enter : GoodIn wsX5_put wsX0_enter := goodIn_r _ [36, 25, 26, 37, 38, 39, 40, 41, 42, 30, 43, 32, 52, 53, 54, 55, 56, 57, 58, 59, 60, 70] (by decide +kernel) (by decide +kernel)
set_option maxRecDepth 20000 in
theorem gX5_put_X0_enter : GoodIn wsX5_put (wsV RX5 146 RX0 yX0_enter wsX0_enter) := goodIn_app (goodIn_of _ (by decide +kernel)) ggX5_put_X0_enter
theorem dX5_put_0 : decode cX5_put 0 = .ok (.aload_n 0, 1) := by decide +kernel
theorem dX5_put_1 : decode cX5_put 1 = .ok (.iload_n 1, 1) := by decide +kernel
theorem dX5_put_2 : decode cX5_put 2 = .ok (.invokevirtual 92, 3) := by decide +kernel
theorem dX5_put_5 : decode cX5_put 5 = .ok (.ifCond .eq 13, 3) := by decide +kernel
theorem dX5_put_8 : decode cX5_put 8 = .ok (.new 71, 3) := by decide +kernel
theorem dX5_put_11 : decode cX5_put 11 = .ok (.dup, 1) := by decide +kernel
theorem dX5_put_12 : decode cX5_put 12 = .ok (.ldc 95, 2) := by decide +kernel
theorem dX5_put_14 : decode cX5_put 14 = .ok (.invokespecial 75, 3) := by decide +kernel
theorem dX5_put_17 : decode cX5_put 17 = .ok (.athrow, 1) := by decide +kernel
theorem dX5_put_18 : decode cX5_put 18 = .ok (.iload_n 3, 1) := by decide +kernel
theorem dX5_put_19 : decode cX5_put 19 = .ok (.iconst 0, 1) := by decide +kernel
theorem dX5_put_20 : decode cX5_put 20 = .ok (.bipush 99, 2) := by decide +kernel
theorem dX5_put_22 : decode cX5_put 22 = .ok (.invokestatic 19, 3) := by decide +kernel
theorem dX5_put_25 : decode cX5_put 25 = .ok (.ifCond .eq 13, 3) := by decide +kernel
theorem dX5_put_28 : decode cX5_put 28 = .ok (.new 23, 3) := by decide +kernel
theorem dX5_put_31 : decode cX5_put 31 = .ok (.dup, 1) := by decide +kernel
theorem dX5_put_32 : decode cX5_put 32 = .ok (.ldc 139, 2) := by decide +kernel
theorem dX5_put_34 : decode cX5_put 34 = .ok (.invokespecial 27, 3) := by decide +kernel
theorem dX5_put_37 : decode cX5_put 37 = .ok (.athrow, 1) := by decide +kernel
theorem dX5_put_38 : decode cX5_put 38 = .ok (.aload_n 0, 1) := by decide +kernel
theorem dX5_put_39 : decode cX5_put 39 = .ok (.getfield 10, 3) := by decide +kernel
theorem dX5_put_42 : decode cX5_put 42 = .ok (.getfield 30, 3) := by decide +kernel
theorem dX5_put_45 : decode cX5_put 45 = .ok (.getfield 34, 3) := by decide +kernel
theorem dX5_put_48 : decode cX5_put 48 = .ok (.bipush 6, 2) := by decide +kernel
theorem dX5_put_50 : decode cX5_put 50 = .ok (.if_icmp .ge 18, 3) := by decide +kernel
theorem dX5_put_53 : decode cX5_put 53 = .ok (.aload_n 0, 1) := by decide +kernel
theorem dX5_put_54 : decode cX5_put 54 = .ok (.getfield 10, 3) := by decide +kernel
theorem dX5_put_57 : decode cX5_put 57 = .ok (.getfield 30, 3) := by decide +kernel
theorem dX5_put_60 : decode cX5_put 60 = .ok (.iload_n 1, 1) := by decide +kernel
theorem dX5_put_61 : decode cX5_put 61 = .ok (.invokevirtual 141, 3) := by decide +kernel
theorem dX5_put_64 : decode cX5_put 64 = .ok (.iconst 2, 1) := by decide +kernel
theorem dX5_put_65 : decode cX5_put 65 = .ok (.if_icmp .lt 13, 3) := by decide +kernel
theorem dX5_put_68 : decode cX5_put 68 = .ok (.new 40, 3) := by decide +kernel
theorem dX5_put_71 : decode cX5_put 71 = .ok (.dup, 1) := by decide +kernel
theorem dX5_put_72 : decode cX5_put 72 = .ok (.ldc 144, 2) := by decide +kernel
theorem dX5_put_74 : decode cX5_put 74 = .ok (.invokespecial 44, 3) := by decide +kernel
theorem dX5_put_77 : decode cX5_put 77 = .ok (.athrow, 1) := by decide +kernel
theorem dX5_put_78 : decode cX5_put 78 = .ok (.aload_n 0, 1) := by decide +kernel
theorem dX5_put_79 : decode cX5_put 79 = .ok (.getfield 10, 3) := by decide +kernel
theorem dX5_put_82 : decode cX5_put 82 = .ok (.getfield 30, 3) := by decide +kernel
theorem dX5_put_85 : decode cX5_put 85 = .ok (.iload_n 1, 1) := by decide +kernel
theorem dX5_put_86 : decode cX5_put 86 = .ok (.iload_n 2, 1) := by decide +kernel
theorem dX5_put_87 : decode cX5_put 87 = .ok (.iload_n 3, 1) := by decide +kernel
theorem dX5_put_88 : decode cX5_put 88 = .ok (.invokevirtual 146, 3) := by decide +kernel
theorem dX5_put_91 : decode cX5_put 91 = .ok (.ireturn, 1) := by decide +kernel
set_option maxRecDepth 20000 in
theorem ggX5_pole_X5_noPole : GoodIn wsX5_pole wsX5_noPole := goodIn_r _ [8, 3, 9, 10, 11, 12, 7, 13, 39, 40, 41, 42, 43, 44, 45, 46, 47, 48, 49, 50, 51, 52, 53, 54, 55] (by decide +kernel) (by decide +kernel)
set_option maxRecDepth 20000 in
theorem gX5_pole_X5_noPole : GoodIn wsX5_pole (wsV RX5 92 RX5 yX5_noPole wsX5_noPole) := goodIn_app (goodIn_of _ (by decide +kernel)) ggX5_pole_X5_noPole
set_option maxRecDepth 20000 in
theorem ggX5_pole_X5_outside : GoodIn wsX5_pole wsX5_outside := goodIn_r _ [13] (by decide +kernel) (by decide +kernel)
set_option maxRecDepth 20000 in
theorem gX5_pole_X5_outside : GoodIn wsX5_pole (va_wsS RX5 19 yX5_outside wsX5_outside) := goodIn_app (goodIn_of _ (by decide +kernel)) ggX5_pole_X5_outside
set_option maxRecDepth 20000 in
theorem ggX5_pole_X1_poleFact : GoodIn wsX5_pole wsX1_poleFact := goodIn_r _ [18, 19, 20, 21, 22, 23, 24, 25, 26, 27, 28, 29, 30, 31, 32, 33, 34, 35, 36, 37, 38, 41, 42, 43, 44, 45, 46, 56, 57, 47, 48, 49, 50, 51, 52, 53, 54, 55, 58, 59, 60, 61, 62, 63, 64, 65, 66, 67] (by decide +kernel) (by decide +kernel)
set_option maxRecDepth 20000 in
theorem gX5_pole_X1_poleFact : GoodIn wsX5_pole (wsV RX5 152 RX1 yX1_poleFact wsX1_poleFact) := goodIn_app (goodIn_of _ (by decide +kernel)) ggX5_pole_X1_poleFact
theorem dX5_pole_0 : decode cX5_pole 0 = .ok (.aload_n 0, 1) := by decide +kernel
theorem dX5_pole_1 : decode cX5_pole 1 = .ok (.iload_n 1, 1) := by decide +kernel
theorem dX5_pole_2 : decode cX5_pole 2 = .ok (.invokevirtual 92, 3) := by decide +kernel
theorem dX5_pole_5 : decode cX5_pole 5 = .ok (.ifCond .ne 12, 3) := by decide +kernel
theorem dX5_pole_8 : decode cX5_pole 8 = .ok (.iload_n 2, 1) := by decide +kernel
theorem dX5_pole_9 : decode cX5_pole 9 = .ok (.iconst 0, 1) := by decide +kernel
theorem dX5_pole_10 : decode cX5_pole 10 = .ok (.iconst 3, 1) := by decide +kernel
theorem dX5_pole_11 : decode cX5_pole 11 = .ok (.invokestatic 19, 3) := by decide +kernel
theorem dX5_pole_14 : decode cX5_pole 14 = .ok (.ifCond .eq 13, 3) := by decide +kernel
theorem dX5_pole_17 : decode cX5_pole 17 = .ok (.new 71, 3) := by decide +kernel
theorem dX5_pole_20 : decode cX5_pole 20 = .ok (.dup, 1) := by decide +kernel
theorem dX5_pole_21 : decode cX5_pole 21 = .ok (.ldc 150, 2) := by decide +kernel
theorem dX5_pole_23 : decode cX5_pole 23 = .ok (.invokespecial 75, 3) := by decide +kernel
theorem dX5_pole_26 : decode cX5_pole 26 = .ok (.athrow, 1) := by decide +kernel
theorem dX5_pole_27 : decode cX5_pole 27 = .ok (.aload_n 0, 1) := by decide +kernel
theorem dX5_pole_28 : decode cX5_pole 28 = .ok (.getfield 10, 3) := by decide +kernel
theorem dX5_pole_31 : decode cX5_pole 31 = .ok (.iload_n 1, 1) := by decide +kernel
theorem dX5_pole_32 : decode cX5_pole 32 = .ok (.iload_n 2, 1) := by decide +kernel
theorem dX5_pole_33 : decode cX5_pole 33 = .ok (.invokevirtual 152, 3) := by decide +kernel
theorem dX5_pole_36 : decode cX5_pole 36 = .ok (.ireturn, 1) := by decide +kernel
set_option maxRecDepth 20000 in
theorem ggX5_sectionOf_X5_noSpan : GoodIn wsX5_sectionOf wsX5_noSpan := goodIn_r _ [10, 3, 4, 11, 12, 13, 14, 15, 16, 17, 18, 9, 19, 26, 27, 28, 29, 30, 31, 32, 33, 34, 35, 36, 37, 38, 39, 40, 41, 42] (by decide +kernel) (by decide +kernel)
set_option maxRecDepth 20000 in
theorem gX5_sectionOf_X5_noSpan : GoodIn wsX5_sectionOf (wsV RX5 67 RX5 yX5_noSpan wsX5_noSpan) := goodIn_app (goodIn_of _ (by decide +kernel)) ggX5_sectionOf_X5_noSpan
set_option maxRecDepth 20000 in
theorem ggX5_sectionOf_X2_at : GoodIn wsX5_sectionOf wsX2_at := goodIn_r _ [24, 25, 43] (by decide +kernel) (by decide +kernel)
set_option maxRecDepth 20000 in
theorem gX5_sectionOf_X2_at : GoodIn wsX5_sectionOf (wsV RX5 82 RX2 yX2_at wsX2_at) := goodIn_app (goodIn_of _ (by decide +kernel)) ggX5_sectionOf_X2_at
theorem dX5_sectionOf_0 : decode cX5_sectionOf 0 = .ok (.aload_n 0, 1) := by decide +kernel
theorem dX5_sectionOf_1 : decode cX5_sectionOf 1 = .ok (.iload_n 1, 1) := by decide +kernel
theorem dX5_sectionOf_2 : decode cX5_sectionOf 2 = .ok (.invokevirtual 67, 3) := by decide +kernel
theorem dX5_sectionOf_5 : decode cX5_sectionOf 5 = .ok (.ifCond .eq 13, 3) := by decide +kernel
theorem dX5_sectionOf_8 : decode cX5_sectionOf 8 = .ok (.new 71, 3) := by decide +kernel
theorem dX5_sectionOf_11 : decode cX5_sectionOf 11 = .ok (.dup, 1) := by decide +kernel
theorem dX5_sectionOf_12 : decode cX5_sectionOf 12 = .ok (.ldc 73, 2) := by decide +kernel
theorem dX5_sectionOf_14 : decode cX5_sectionOf 14 = .ok (.invokespecial 75, 3) := by decide +kernel
theorem dX5_sectionOf_17 : decode cX5_sectionOf 17 = .ok (.athrow, 1) := by decide +kernel
theorem dX5_sectionOf_18 : decode cX5_sectionOf 18 = .ok (.aload_n 0, 1) := by decide +kernel
theorem dX5_sectionOf_19 : decode cX5_sectionOf 19 = .ok (.getfield 10, 3) := by decide +kernel
theorem dX5_sectionOf_22 : decode cX5_sectionOf 22 = .ok (.getfield 45, 3) := by decide +kernel
theorem dX5_sectionOf_25 : decode cX5_sectionOf 25 = .ok (.getfield 155, 3) := by decide +kernel
theorem dX5_sectionOf_28 : decode cX5_sectionOf 28 = .ok (.iload_n 1, 1) := by decide +kernel
theorem dX5_sectionOf_29 : decode cX5_sectionOf 29 = .ok (.invokevirtual 82, 3) := by decide +kernel
theorem dX5_sectionOf_32 : decode cX5_sectionOf 32 = .ok (.ireturn, 1) := by decide +kernel
set_option maxRecDepth 20000 in
theorem ggX5_section_X5_noSection : GoodIn wsX5_section wsX5_noSection := goodIn_r _ [8, 3, 9, 10, 11, 12, 7, 13, 81, 82, 83, 84, 85, 86, 87, 88, 89, 90, 91, 92, 93, 94, 95, 96, 97] (by decide +kernel) (by decide +kernel)
set_option maxRecDepth 20000 in
theorem gX5_section_X5_noSection : GoodIn wsX5_section (wsV RX5 108 RX5 yX5_noSection wsX5_noSection) := goodIn_app (goodIn_of _ (by decide +kernel)) ggX5_section_X5_noSection
set_option maxRecDepth 20000 in
theorem ggX5_section_X5_outside : GoodIn wsX5_section wsX5_outside := goodIn_r _ [13] (by decide +kernel) (by decide +kernel)
set_option maxRecDepth 20000 in
theorem gX5_section_X5_outside : GoodIn wsX5_section (va_wsS RX5 19 yX5_outside wsX5_outside) := goodIn_app (goodIn_of _ (by decide +kernel)) ggX5_section_X5_outside
set_option maxRecDepth 20000 in
theorem ggX5_section_X1_sectionFact : GoodIn wsX5_section wsX1_sectionFact := goodIn_r _ [18, 19, 20, 21, 22, 23, 24, 25, 26, 27, 28, 29, 30, 31, 32, 33, 34, 35, 36, 37, 38, 39, 40, 41, 42, 43, 17, 44, 45, 46, 47, 48, 49, 50, 51, 52, 53, 54, 55, 56, 57, 58, 12, 7, 13, 59, 60, 61, 62, 63, 64, 65, 66, 67, 68, 69, 70, 71, 72, 73, 74, 75, 76, 77, 78, 79, 80, 83, 84, 85, 86, 87, 88, 89, 90, 91, 92, 93, 94, 95, 96, 97, 98, 99, 100, 101, 102, 103, 104, 105, 106, 107] (by decide +kernel) (by decide +kernel)
set_option maxRecDepth 20000 in
theorem gX5_section_X1_sectionFact : GoodIn wsX5_section (wsV RX5 160 RX1 yX1_sectionFact wsX1_sectionFact) := goodIn_app (goodIn_of _ (by decide +kernel)) ggX5_section_X1_sectionFact
theorem dX5_section_0 : decode cX5_section 0 = .ok (.aload_n 0, 1) := by decide +kernel
theorem dX5_section_1 : decode cX5_section 1 = .ok (.iload_n 1, 1) := by decide +kernel
theorem dX5_section_2 : decode cX5_section 2 = .ok (.invokevirtual 108, 3) := by decide +kernel
theorem dX5_section_5 : decode cX5_section 5 = .ok (.ifCond .ne 12, 3) := by decide +kernel
theorem dX5_section_8 : decode cX5_section 8 = .ok (.iload_n 2, 1) := by decide +kernel
theorem dX5_section_9 : decode cX5_section 9 = .ok (.iconst 0, 1) := by decide +kernel
theorem dX5_section_10 : decode cX5_section 10 = .ok (.iconst 5, 1) := by decide +kernel
theorem dX5_section_11 : decode cX5_section 11 = .ok (.invokestatic 19, 3) := by decide +kernel
theorem dX5_section_14 : decode cX5_section 14 = .ok (.ifCond .eq 13, 3) := by decide +kernel
theorem dX5_section_17 : decode cX5_section 17 = .ok (.new 71, 3) := by decide +kernel
theorem dX5_section_20 : decode cX5_section 20 = .ok (.dup, 1) := by decide +kernel
theorem dX5_section_21 : decode cX5_section 21 = .ok (.ldc 158, 2) := by decide +kernel
theorem dX5_section_23 : decode cX5_section 23 = .ok (.invokespecial 75, 3) := by decide +kernel
theorem dX5_section_26 : decode cX5_section 26 = .ok (.athrow, 1) := by decide +kernel
theorem dX5_section_27 : decode cX5_section 27 = .ok (.aload_n 0, 1) := by decide +kernel
theorem dX5_section_28 : decode cX5_section 28 = .ok (.getfield 10, 3) := by decide +kernel
theorem dX5_section_31 : decode cX5_section 31 = .ok (.iload_n 1, 1) := by decide +kernel
theorem dX5_section_32 : decode cX5_section 32 = .ok (.iload_n 2, 1) := by decide +kernel
theorem dX5_section_33 : decode cX5_section 33 = .ok (.invokevirtual 160, 3) := by decide +kernel
theorem dX5_section_36 : decode cX5_section 36 = .ok (.ireturn, 1) := by decide +kernel
set_option maxRecDepth 20000 in
theorem ggX5_car_X5_outside : GoodIn wsX5_car wsX5_outside := goodIn_r _ [9] (by decide +kernel) (by decide +kernel)
set_option maxRecDepth 20000 in
theorem gX5_car_X5_outside : GoodIn wsX5_car (va_wsS RX5 19 yX5_outside wsX5_outside) := goodIn_app (goodIn_of _ (by decide +kernel)) ggX5_car_X5_outside
set_option maxRecDepth 20000 in
theorem ggX5_car_X1_carFact : GoodIn wsX5_car wsX1_carFact := goodIn_r _ [14, 15, 16, 17, 18, 19, 20, 21, 22, 23, 24, 25, 26, 27, 28, 29, 30, 31, 13, 32, 33, 34, 35, 36, 37, 38, 39, 40, 41, 42, 43, 44, 45, 46, 47, 48, 7, 8, 9, 49, 50, 51, 52, 53, 54, 55, 56, 57, 58, 59, 60, 63, 64, 65, 66, 67, 68, 69, 70, 71, 72, 73, 74, 75, 76, 77, 78, 79, 80, 81, 82, 83, 84, 85, 86, 87] (by decide +kernel) (by decide +kernel)
set_option maxRecDepth 20000 in
theorem gX5_car_X1_carFact : GoodIn wsX5_car (wsV RX5 165 RX1 yX1_carFact wsX1_carFact) := goodIn_app (goodIn_of _ (by decide +kernel)) ggX5_car_X1_carFact
theorem dX5_car_0 : decode cX5_car 0 = .ok (.iload_n 1, 1) := by decide +kernel
theorem dX5_car_1 : decode cX5_car 1 = .ok (.iconst 0, 1) := by decide +kernel
theorem dX5_car_2 : decode cX5_car 2 = .ok (.aload_n 0, 1) := by decide +kernel
theorem dX5_car_3 : decode cX5_car 3 = .ok (.getfield 10, 3) := by decide +kernel
theorem dX5_car_6 : decode cX5_car 6 = .ok (.getfield 30, 3) := by decide +kernel
theorem dX5_car_9 : decode cX5_car 9 = .ok (.getfield 34, 3) := by decide +kernel
theorem dX5_car_12 : decode cX5_car 12 = .ok (.iconst 1, 1) := by decide +kernel
theorem dX5_car_13 : decode cX5_car 13 = .ok (.isub, 1) := by decide +kernel
theorem dX5_car_14 : decode cX5_car 14 = .ok (.invokestatic 19, 3) := by decide +kernel
theorem dX5_car_17 : decode cX5_car 17 = .ok (.ifCond .ne 13, 3) := by decide +kernel
theorem dX5_car_20 : decode cX5_car 20 = .ok (.iload_n 2, 1) := by decide +kernel
theorem dX5_car_21 : decode cX5_car 21 = .ok (.iconst 0, 1) := by decide +kernel
theorem dX5_car_22 : decode cX5_car 22 = .ok (.bipush 7, 2) := by decide +kernel
theorem dX5_car_24 : decode cX5_car 24 = .ok (.invokestatic 19, 3) := by decide +kernel
theorem dX5_car_27 : decode cX5_car 27 = .ok (.ifCond .eq 13, 3) := by decide +kernel
theorem dX5_car_30 : decode cX5_car 30 = .ok (.new 71, 3) := by decide +kernel
theorem dX5_car_33 : decode cX5_car 33 = .ok (.dup, 1) := by decide +kernel
theorem dX5_car_34 : decode cX5_car 34 = .ok (.ldc 163, 2) := by decide +kernel
theorem dX5_car_36 : decode cX5_car 36 = .ok (.invokespecial 75, 3) := by decide +kernel
theorem dX5_car_39 : decode cX5_car 39 = .ok (.athrow, 1) := by decide +kernel
theorem dX5_car_40 : decode cX5_car 40 = .ok (.aload_n 0, 1) := by decide +kernel
theorem dX5_car_41 : decode cX5_car 41 = .ok (.getfield 10, 3) := by decide +kernel
theorem dX5_car_44 : decode cX5_car 44 = .ok (.iload_n 1, 1) := by decide +kernel
theorem dX5_car_45 : decode cX5_car 45 = .ok (.iload_n 2, 1) := by decide +kernel
theorem dX5_car_46 : decode cX5_car 46 = .ok (.invokevirtual 165, 3) := by decide +kernel
theorem dX5_car_49 : decode cX5_car 49 = .ok (.ireturn, 1) := by decide +kernel
set_option maxRecDepth 20000 in
theorem ggX5_pass_X5_outside : GoodIn wsX5_pass wsX5_outside := goodIn_r _ [7] (by decide +kernel) (by decide +kernel)
set_option maxRecDepth 20000 in
theorem gX5_pass_X5_outside : GoodIn wsX5_pass (va_wsS RX5 19 yX5_outside wsX5_outside) := goodIn_app (goodIn_of _ (by decide +kernel)) ggX5_pass_X5_outside
set_option maxRecDepth 20000 in
theorem ggX5_pass_X1_run : GoodIn wsX5_pass wsX1_run := goodIn_r _ [12, 13, 14, 15, 16, 11, 17, 18, 19, 20, 21, 22, 23, 24, 25, 26, 27, 28, 29, 30, 31, 32, 33, 34, 35, 36, 37, 38, 39, 40, 41, 42, 43, 44, 45, 46, 47, 48, 49, 5, 6, 7, 50, 51, 52, 53, 54, 55, 56, 57, 58, 59, 60, 61, 62, 63, 64, 65, 66, 67, 68, 69, 70, 71, 72, 73, 74, 75, 76, 77, 78, 79, 80, 81, 82, 83, 84, 85, 86, 87, 88, 89, 90, 91, 92, 93, 94, 95, 96, 97, 98, 99, 100, 101, 102, 103, 104, 105, 106, 107, 108, 109, 110, 111, 112, 113, 114, 115, 116, 117, 118, 119, 120, 121, 122, 123, 124, 125, 126, 127, 128, 129, 130, 131, 132, 133, 134, 135, 136, 137, 138, 139, 140, 141, 142, 143, 144, 145, 146, 147, 148, 149, 150, 151, 152, 153, 154, 155, 156, 157, 158, 159, 160, 161, 162, 163, 164, 165, 166, 167, 168, 169, 170, 171, 172, 173, 174, 175, 176, 177, 178, 179, 180, 181, 182, 183, 184, 185, 186, 187, 188, 189, 190, 191, 192, 193, 194, 195, 196, 197, 198, 199, 200, 201, 204, 205, 206, 207, 208, 209, 210, 211, 212, 213, 214, 215, 216, 217, 218, 219, 220, 221, 222, 223, 224, 225, 226, 227, 228, 229, 230] (by decide +kernel) (by decide +kernel)
set_option maxRecDepth 20000 in
theorem gX5_pass_X1_run : GoodIn wsX5_pass (wsV RX5 170 RX1 yX1_run wsX1_run) := goodIn_app (goodIn_of _ (by decide +kernel)) ggX5_pass_X1_run
theorem dX5_pass_0 : decode cX5_pass 0 = .ok (.iload_n 1, 1) := by decide +kernel
theorem dX5_pass_1 : decode cX5_pass 1 = .ok (.iconst 1, 1) := by decide +kernel
theorem dX5_pass_2 : decode cX5_pass 2 = .ok (.sipush 200, 3) := by decide +kernel
theorem dX5_pass_5 : decode cX5_pass 5 = .ok (.invokestatic 19, 3) := by decide +kernel
theorem dX5_pass_8 : decode cX5_pass 8 = .ok (.ifCond .eq 13, 3) := by decide +kernel
theorem dX5_pass_11 : decode cX5_pass 11 = .ok (.new 23, 3) := by decide +kernel
theorem dX5_pass_14 : decode cX5_pass 14 = .ok (.dup, 1) := by decide +kernel
theorem dX5_pass_15 : decode cX5_pass 15 = .ok (.ldc 168, 2) := by decide +kernel
theorem dX5_pass_17 : decode cX5_pass 17 = .ok (.invokespecial 27, 3) := by decide +kernel
theorem dX5_pass_20 : decode cX5_pass 20 = .ok (.athrow, 1) := by decide +kernel
theorem dX5_pass_21 : decode cX5_pass 21 = .ok (.aload_n 0, 1) := by decide +kernel
theorem dX5_pass_22 : decode cX5_pass 22 = .ok (.getfield 10, 3) := by decide +kernel
theorem dX5_pass_25 : decode cX5_pass 25 = .ok (.iload_n 1, 1) := by decide +kernel
theorem dX5_pass_26 : decode cX5_pass 26 = .ok (.invokevirtual 170, 3) := by decide +kernel
theorem dX5_pass_29 : decode cX5_pass 29 = .ok (.ireturn, 1) := by decide +kernel
set_option maxRecDepth 20000 in
theorem ggX5_count_X5_outside : GoodIn wsX5_count wsX5_outside := goodIn_r _ [7] (by decide +kernel) (by decide +kernel)
set_option maxRecDepth 20000 in
theorem gX5_count_X5_outside : GoodIn wsX5_count (va_wsS RX5 19 yX5_outside wsX5_outside) := goodIn_app (goodIn_of _ (by decide +kernel)) ggX5_count_X5_outside
set_option maxRecDepth 20000 in
theorem ggX5_count_X1_total : GoodIn wsX5_count wsX1_total := goodIn_r _ [12, 13, 14, 15, 16, 17, 18, 19, 20, 21, 22, 23, 24, 25, 26, 27, 28, 29, 30, 31, 32, 33, 34, 35, 36, 37, 38, 39, 40, 41, 42, 43, 44, 45, 46, 47, 48, 49, 50, 51, 52, 55, 56, 57, 58, 59, 60, 61, 62, 63, 64, 65, 66, 67, 68, 69, 70, 71, 72, 73, 74, 75, 76, 77, 78, 79, 80, 81] (by decide +kernel) (by decide +kernel)
set_option maxRecDepth 20000 in
theorem gX5_count_X1_total : GoodIn wsX5_count (wsV RX5 175 RX1 yX1_total wsX1_total) := goodIn_app (goodIn_of _ (by decide +kernel)) ggX5_count_X1_total
theorem dX5_count_0 : decode cX5_count 0 = .ok (.iload_n 1, 1) := by decide +kernel
theorem dX5_count_1 : decode cX5_count 1 = .ok (.iconst 0, 1) := by decide +kernel
theorem dX5_count_2 : decode cX5_count 2 = .ok (.bipush 10, 2) := by decide +kernel
theorem dX5_count_4 : decode cX5_count 4 = .ok (.invokestatic 19, 3) := by decide +kernel
theorem dX5_count_7 : decode cX5_count 7 = .ok (.ifCond .eq 13, 3) := by decide +kernel
theorem dX5_count_10 : decode cX5_count 10 = .ok (.new 71, 3) := by decide +kernel
theorem dX5_count_13 : decode cX5_count 13 = .ok (.dup, 1) := by decide +kernel
theorem dX5_count_14 : decode cX5_count 14 = .ok (.ldc 173, 2) := by decide +kernel
theorem dX5_count_16 : decode cX5_count 16 = .ok (.invokespecial 75, 3) := by decide +kernel
theorem dX5_count_19 : decode cX5_count 19 = .ok (.athrow, 1) := by decide +kernel
theorem dX5_count_20 : decode cX5_count 20 = .ok (.aload_n 0, 1) := by decide +kernel
theorem dX5_count_21 : decode cX5_count 21 = .ok (.getfield 10, 3) := by decide +kernel
theorem dX5_count_24 : decode cX5_count 24 = .ok (.iload_n 1, 1) := by decide +kernel
theorem dX5_count_25 : decode cX5_count 25 = .ok (.invokevirtual 175, 3) := by decide +kernel
theorem dX5_count_28 : decode cX5_count 28 = .ok (.ireturn, 1) := by decide +kernel
set_option maxRecDepth 20000 in
theorem ggX5_next_X5_noPole : GoodIn wsX5_next wsX5_noPole := goodIn_r _ [10, 4, 11, 12, 13, 14, 9, 15, 237, 238, 239, 240, 241, 242, 243, 244, 245, 246, 247, 248, 249, 250, 251, 252, 253] (by decide +kernel) (by decide +kernel)
set_option maxRecDepth 20000 in
theorem gX5_next_X5_noPole : GoodIn wsX5_next (wsV RX5 92 RX5 yX5_noPole wsX5_noPole) := goodIn_app (goodIn_of _ (by decide +kernel)) ggX5_next_X5_noPole
set_option maxRecDepth 20000 in
theorem ggX5_next_X1_copyFrom : GoodIn wsX5_next wsX1_copyFrom := goodIn_r _ [20, 21, 22, 23, 24, 25, 26, 27, 28, 29, 30, 31, 32, 33, 34, 35, 36, 37, 38, 39, 40, 41, 42, 43, 44, 45, 46, 47, 48, 49, 50, 51, 52, 53, 54, 55, 56, 57, 58, 59, 60, 61, 62, 63, 64, 65, 66, 67, 68, 69, 70, 71, 72, 73, 239, 240, 241, 242, 243, 244, 245, 246, 247, 248, 249, 250, 251, 252, 253, 254, 255, 256, 257, 258, 259, 260, 261, 262, 263, 264, 265] (by decide +kernel) (by decide +kernel)
set_option maxRecDepth 20000 in
theorem gX5_next_X1_copyFrom : GoodIn wsX5_next (wsV RX5 178 RX1 yX1_copyFrom wsX1_copyFrom) := goodIn_app (goodIn_of _ (by decide +kernel)) ggX5_next_X1_copyFrom
set_option maxRecDepth 20000 in
theorem ggX5_next_X1_tickOnce : GoodIn wsX5_next wsX1_tickOnce := goodIn_r _ [77, 78, 79, 80, 19, 81, 23, 82, 83, 84, 85, 62, 86, 69, 87, 48, 49, 44, 50, 46, 88, 89, 90, 91, 92, 93, 21, 94, 95, 96, 97, 30, 98, 32, 14, 9, 15, 99, 100, 101, 102, 66, 70, 103, 104, 105, 106, 107, 108, 109, 110, 111, 112, 113, 114, 115, 116, 117, 118, 119, 120, 121, 122, 123, 124, 125, 126, 127, 128, 129, 130, 131, 132, 133, 134, 135, 136, 137, 138, 139, 140, 141, 142, 143, 33, 38, 40, 37, 39, 144, 145, 146, 147, 148, 149, 150, 151, 152, 153, 154, 155, 156, 24, 157, 158, 159, 160, 161, 162, 163, 164, 64, 65, 165, 166, 167, 168, 72, 169, 170, 171, 172, 71, 173, 174, 175, 176, 177, 178, 179, 180, 181, 22, 182, 183, 184, 185, 25, 186, 187, 188, 189, 190, 191, 192, 193, 194, 54, 195, 56, 196, 197, 198, 199, 200, 201, 202, 68, 67, 203, 204, 205, 206, 207, 208, 209, 210, 211, 26, 212, 213, 214, 215, 216, 217, 218, 219, 220, 221, 222, 223, 224, 225, 226, 227, 228, 229, 230, 231, 232, 239, 240, 241, 242, 243, 244, 257, 258, 259, 260, 261, 262, 263, 264, 265, 254, 245, 246, 247, 248, 249, 250, 251, 252, 253, 255, 256] (by decide +kernel) (by decide +kernel)
set_option maxRecDepth 20000 in
theorem gX5_next_X1_tickOnce : GoodIn wsX5_next (wsV RX5 182 RX1 yX1_tickOnce wsX1_tickOnce) := goodIn_app (goodIn_of _ (by decide +kernel)) ggX5_next_X1_tickOnce
set_option maxRecDepth 20000 in
theorem ggX5_next_X0_hasComeTo : GoodIn wsX5_next wsX0_hasComeTo := goodIn_r _ [236, 64, 72, 65, 87, 48, 49, 44, 50, 46, 257, 258, 259, 260, 261, 262, 263, 264, 265, 254] (by decide +kernel) (by decide +kernel)
set_option maxRecDepth 20000 in
theorem gX5_next_X0_hasComeTo : GoodIn wsX5_next (wsV RX5 185 RX0 yX0_hasComeTo wsX0_hasComeTo) := goodIn_app (goodIn_of _ (by decide +kernel)) ggX5_next_X0_hasComeTo
theorem dX5_next_0 : decode cX5_next 0 = .ok (.aload_n 0, 1) := by decide +kernel
theorem dX5_next_1 : decode cX5_next 1 = .ok (.iload_n 1, 1) := by decide +kernel
theorem dX5_next_2 : decode cX5_next 2 = .ok (.invokevirtual 92, 3) := by decide +kernel
theorem dX5_next_5 : decode cX5_next 5 = .ok (.ifCond .eq 13, 3) := by decide +kernel
theorem dX5_next_8 : decode cX5_next 8 = .ok (.new 71, 3) := by decide +kernel
theorem dX5_next_11 : decode cX5_next 11 = .ok (.dup, 1) := by decide +kernel
theorem dX5_next_12 : decode cX5_next 12 = .ok (.ldc 95, 2) := by decide +kernel
theorem dX5_next_14 : decode cX5_next 14 = .ok (.invokespecial 75, 3) := by decide +kernel
theorem dX5_next_17 : decode cX5_next 17 = .ok (.athrow, 1) := by decide +kernel
theorem dX5_next_18 : decode cX5_next 18 = .ok (.aload_n 0, 1) := by decide +kernel
theorem dX5_next_19 : decode cX5_next 19 = .ok (.getfield 16, 3) := by decide +kernel
theorem dX5_next_22 : decode cX5_next 22 = .ok (.aload_n 0, 1) := by decide +kernel
theorem dX5_next_23 : decode cX5_next 23 = .ok (.getfield 10, 3) := by decide +kernel
theorem dX5_next_26 : decode cX5_next 26 = .ok (.invokevirtual 178, 3) := by decide +kernel
theorem dX5_next_29 : decode cX5_next 29 = .ok (.iconst 1, 1) := by decide +kernel
theorem dX5_next_30 : decode cX5_next 30 = .ok (.istore_n 2, 1) := by decide +kernel
theorem dX5_next_31 : decode cX5_next 31 = .ok (.iload_n 2, 1) := by decide +kernel
theorem dX5_next_32 : decode cX5_next 32 = .ok (.sipush 150, 3) := by decide +kernel
theorem dX5_next_35 : decode cX5_next 35 = .ok (.if_icmp .gt 32, 3) := by decide +kernel
theorem dX5_next_38 : decode cX5_next 38 = .ok (.aload_n 0, 1) := by decide +kernel
theorem dX5_next_39 : decode cX5_next 39 = .ok (.getfield 16, 3) := by decide +kernel
theorem dX5_next_42 : decode cX5_next 42 = .ok (.invokevirtual 182, 3) := by decide +kernel
theorem dX5_next_45 : decode cX5_next 45 = .ok (.aload_n 0, 1) := by decide +kernel
theorem dX5_next_46 : decode cX5_next 46 = .ok (.getfield 16, 3) := by decide +kernel
theorem dX5_next_49 : decode cX5_next 49 = .ok (.getfield 30, 3) := by decide +kernel
theorem dX5_next_52 : decode cX5_next 52 = .ok (.iload_n 1, 1) := by decide +kernel
theorem dX5_next_53 : decode cX5_next 53 = .ok (.invokevirtual 185, 3) := by decide +kernel
theorem dX5_next_56 : decode cX5_next 56 = .ok (.ifCond .eq 5, 3) := by decide +kernel
theorem dX5_next_59 : decode cX5_next 59 = .ok (.iload_n 2, 1) := by decide +kernel
theorem dX5_next_60 : decode cX5_next 60 = .ok (.ireturn, 1) := by decide +kernel
theorem dX5_next_61 : decode cX5_next 61 = .ok (.iinc 2 1, 3) := by decide +kernel
theorem dX5_next_64 : decode cX5_next 64 = .ok (.goto (-33), 3) := by decide +kernel
theorem dX5_next_67 : decode cX5_next 67 = .ok (.iconst (-1), 1) := by decide +kernel
theorem dX5_next_68 : decode cX5_next 68 = .ok (.ireturn, 1) := by decide +kernel
set_option maxRecDepth 20000 in
theorem ggX5_needs_X5_noSection : GoodIn wsX5_needs wsX5_noSection := goodIn_r _ [17, 6, 7, 18, 19, 20, 16, 21, 237, 238, 239, 240, 241, 242, 243, 244, 245, 246, 247, 248, 249, 250, 251, 252, 253] (by decide +kernel) (by decide +kernel)
set_option maxRecDepth 20000 in
theorem gX5_needs_X5_noSection : GoodIn wsX5_needs (wsV RX5 108 RX5 yX5_noSection wsX5_noSection) := goodIn_app (goodIn_of _ (by decide +kernel)) ggX5_needs_X5_noSection
set_option maxRecDepth 20000 in
theorem ggX5_needs_X5_outside : GoodIn wsX5_needs wsX5_outside := goodIn_r _ [21] (by decide +kernel) (by decide +kernel)
set_option maxRecDepth 20000 in
theorem gX5_needs_X5_outside : GoodIn wsX5_needs (va_wsS RX5 19 yX5_outside wsX5_outside) := goodIn_app (goodIn_of _ (by decide +kernel)) ggX5_needs_X5_outside
set_option maxRecDepth 20000 in
theorem ggX5_needs_X1_copyFrom : GoodIn wsX5_needs wsX1_copyFrom := goodIn_r _ [26, 27, 28, 29, 30, 31, 32, 33, 34, 35, 36, 37, 38, 39, 40, 41, 42, 43, 44, 45, 46, 47, 48, 49, 50, 51, 52, 53, 54, 55, 56, 57, 58, 59, 60, 61, 62, 63, 64, 65, 66, 67, 68, 69, 70, 71, 72, 73, 74, 75, 76, 77, 78, 79, 239, 240, 241, 242, 243, 244, 245, 246, 247, 248, 249, 250, 251, 252, 253, 254, 255, 256, 257, 258, 259, 260, 261, 262, 263, 264, 265] (by decide +kernel) (by decide +kernel)
set_option maxRecDepth 20000 in
theorem gX5_needs_X1_copyFrom : GoodIn wsX5_needs (wsV RX5 178 RX1 yX1_copyFrom wsX1_copyFrom) := goodIn_app (goodIn_of _ (by decide +kernel)) ggX5_needs_X1_copyFrom
set_option maxRecDepth 20000 in
theorem ggX5_needs_X1_tickOnce : GoodIn wsX5_needs wsX1_tickOnce := goodIn_r _ [83, 84, 85, 86, 25, 87, 29, 88, 89, 90, 91, 68, 92, 75, 93, 54, 55, 50, 56, 52, 94, 95, 96, 97, 98, 99, 27, 100, 101, 102, 103, 36, 104, 38, 20, 16, 21, 105, 106, 107, 108, 72, 76, 109, 110, 111, 112, 113, 114, 115, 116, 117, 118, 119, 120, 121, 122, 123, 124, 125, 126, 127, 128, 129, 130, 131, 132, 133, 134, 135, 136, 10, 11, 12, 137, 138, 139, 140, 141, 142, 143, 144, 145, 146, 39, 44, 46, 43, 45, 147, 148, 149, 150, 151, 152, 153, 154, 155, 156, 157, 158, 159, 30, 160, 161, 162, 163, 164, 165, 166, 167, 70, 71, 168, 169, 170, 171, 78, 172, 173, 174, 175, 77, 176, 177, 178, 179, 180, 181, 182, 183, 184, 28, 185, 186, 187, 188, 31, 189, 190, 191, 192, 193, 194, 195, 196, 197, 60, 198, 62, 199, 200, 201, 202, 203, 204, 205, 74, 73, 206, 207, 208, 209, 210, 211, 212, 213, 214, 32, 215, 216, 217, 218, 219, 220, 221, 222, 223, 224, 225, 226, 227, 228, 229, 230, 231, 232, 233, 234, 235, 239, 240, 241, 242, 243, 244, 257, 258, 259, 260, 261, 262, 263, 264, 265, 254, 245, 246, 247, 248, 249, 250, 251, 252, 253, 255, 256] (by decide +kernel) (by decide +kernel)
set_option maxRecDepth 20000 in
theorem gX5_needs_X1_tickOnce : GoodIn wsX5_needs (wsV RX5 182 RX1 yX1_tickOnce wsX1_tickOnce) := goodIn_app (goodIn_of _ (by decide +kernel)) ggX5_needs_X1_tickOnce
set_option maxRecDepth 20000 in
theorem ggX5_needs_X2_at : GoodIn wsX5_needs wsX2_at := goodIn_r _ [56, 52, 254] (by decide +kernel) (by decide +kernel)
set_option maxRecDepth 20000 in
theorem gX5_needs_X2_at : GoodIn wsX5_needs (wsV RX5 82 RX2 yX2_at wsX2_at) := goodIn_app (goodIn_of _ (by decide +kernel)) ggX5_needs_X2_at
theorem dX5_needs_0 : decode cX5_needs 0 = .ok (.aload_n 0, 1) := by decide +kernel
theorem dX5_needs_1 : decode cX5_needs 1 = .ok (.iload_n 1, 1) := by decide +kernel
theorem dX5_needs_2 : decode cX5_needs 2 = .ok (.invokevirtual 108, 3) := by decide +kernel
theorem dX5_needs_5 : decode cX5_needs 5 = .ok (.ifCond .eq 13, 3) := by decide +kernel
theorem dX5_needs_8 : decode cX5_needs 8 = .ok (.new 71, 3) := by decide +kernel
theorem dX5_needs_11 : decode cX5_needs 11 = .ok (.dup, 1) := by decide +kernel
theorem dX5_needs_12 : decode cX5_needs 12 = .ok (.ldc 111, 2) := by decide +kernel
theorem dX5_needs_14 : decode cX5_needs 14 = .ok (.invokespecial 75, 3) := by decide +kernel
theorem dX5_needs_17 : decode cX5_needs 17 = .ok (.athrow, 1) := by decide +kernel
theorem dX5_needs_18 : decode cX5_needs 18 = .ok (.iload_n 2, 1) := by decide +kernel
theorem dX5_needs_19 : decode cX5_needs 19 = .ok (.iconst 1, 1) := by decide +kernel
theorem dX5_needs_20 : decode cX5_needs 20 = .ok (.bipush 100, 2) := by decide +kernel
theorem dX5_needs_22 : decode cX5_needs 22 = .ok (.invokestatic 19, 3) := by decide +kernel
theorem dX5_needs_25 : decode cX5_needs 25 = .ok (.ifCond .eq 13, 3) := by decide +kernel
theorem dX5_needs_28 : decode cX5_needs 28 = .ok (.new 23, 3) := by decide +kernel
theorem dX5_needs_31 : decode cX5_needs 31 = .ok (.dup, 1) := by decide +kernel
theorem dX5_needs_32 : decode cX5_needs 32 = .ok (.ldc 188, 2) := by decide +kernel
theorem dX5_needs_34 : decode cX5_needs 34 = .ok (.invokespecial 27, 3) := by decide +kernel
theorem dX5_needs_37 : decode cX5_needs 37 = .ok (.athrow, 1) := by decide +kernel
theorem dX5_needs_38 : decode cX5_needs 38 = .ok (.aload_n 0, 1) := by decide +kernel
theorem dX5_needs_39 : decode cX5_needs 39 = .ok (.getfield 16, 3) := by decide +kernel
theorem dX5_needs_42 : decode cX5_needs 42 = .ok (.aload_n 0, 1) := by decide +kernel
theorem dX5_needs_43 : decode cX5_needs 43 = .ok (.getfield 10, 3) := by decide +kernel
theorem dX5_needs_46 : decode cX5_needs 46 = .ok (.invokevirtual 178, 3) := by decide +kernel
theorem dX5_needs_49 : decode cX5_needs 49 = .ok (.iconst 0, 1) := by decide +kernel
theorem dX5_needs_50 : decode cX5_needs 50 = .ok (.istore_n 3, 1) := by decide +kernel
theorem dX5_needs_51 : decode cX5_needs 51 = .ok (.iconst 0, 1) := by decide +kernel
theorem dX5_needs_52 : decode cX5_needs 52 = .ok (.istore 4, 2) := by decide +kernel
theorem dX5_needs_54 : decode cX5_needs 54 = .ok (.iload 4, 2) := by decide +kernel
theorem dX5_needs_56 : decode cX5_needs 56 = .ok (.iload_n 2, 1) := by decide +kernel
theorem dX5_needs_57 : decode cX5_needs 57 = .ok (.if_icmp .ge 35, 3) := by decide +kernel
theorem dX5_needs_60 : decode cX5_needs 60 = .ok (.aload_n 0, 1) := by decide +kernel
theorem dX5_needs_61 : decode cX5_needs 61 = .ok (.getfield 16, 3) := by decide +kernel
theorem dX5_needs_64 : decode cX5_needs 64 = .ok (.invokevirtual 182, 3) := by decide +kernel
theorem dX5_needs_67 : decode cX5_needs 67 = .ok (.iload_n 3, 1) := by decide +kernel
theorem dX5_needs_68 : decode cX5_needs 68 = .ok (.aload_n 0, 1) := by decide +kernel
theorem dX5_needs_69 : decode cX5_needs 69 = .ok (.getfield 16, 3) := by decide +kernel
theorem dX5_needs_72 : decode cX5_needs 72 = .ok (.getfield 45, 3) := by decide +kernel
theorem dX5_needs_75 : decode cX5_needs 75 = .ok (.getfield 190, 3) := by decide +kernel
theorem dX5_needs_78 : decode cX5_needs 78 = .ok (.iload_n 1, 1) := by decide +kernel
theorem dX5_needs_79 : decode cX5_needs 79 = .ok (.invokevirtual 82, 3) := by decide +kernel
theorem dX5_needs_82 : decode cX5_needs 82 = .ok (.invokestatic 123, 3) := by decide +kernel
theorem dX5_needs_85 : decode cX5_needs 85 = .ok (.istore_n 3, 1) := by decide +kernel
theorem dX5_needs_86 : decode cX5_needs 86 = .ok (.iinc 4 1, 3) := by decide +kernel
theorem dX5_needs_89 : decode cX5_needs 89 = .ok (.goto (-35), 3) := by decide +kernel
theorem dX5_needs_92 : decode cX5_needs 92 = .ok (.iload_n 3, 1) := by decide +kernel
theorem dX5_needs_93 : decode cX5_needs 93 = .ok (.ireturn, 1) := by decide +kernel
set_option maxRecDepth 20000 in
theorem ggX5_advise_X5_outside : GoodIn wsX5_advise wsX5_outside := goodIn_r _ [10] (by decide +kernel) (by decide +kernel)
set_option maxRecDepth 20000 in
theorem gX5_advise_X5_outside : GoodIn wsX5_advise (va_wsS RX5 19 yX5_outside wsX5_outside) := goodIn_app (goodIn_of _ (by decide +kernel)) ggX5_advise_X5_outside
set_option maxRecDepth 20000 in
theorem ggX5_advise_X1_copyFrom : GoodIn wsX5_advise wsX1_copyFrom := goodIn_r _ [15, 16, 17, 18, 19, 20, 21, 22, 23, 24, 25, 26, 27, 28, 29, 30, 31, 32, 33, 34, 35, 36, 37, 38, 39, 40, 41, 42, 43, 44, 45, 46, 47, 48, 49, 50, 51, 52, 53, 54, 55, 56, 57, 58, 59, 60, 61, 62, 63, 64, 65, 66, 67, 68, 243, 244, 245, 246, 247, 248, 249, 250, 251, 252, 253, 254, 255, 256, 257, 258, 259, 260, 261, 262, 263, 264, 265, 266, 267, 268, 269] (by decide +kernel) (by decide +kernel)
set_option maxRecDepth 20000 in
theorem gX5_advise_X1_copyFrom : GoodIn wsX5_advise (wsV RX5 178 RX1 yX1_copyFrom wsX1_copyFrom) := goodIn_app (goodIn_of _ (by decide +kernel)) ggX5_advise_X1_copyFrom
set_option maxRecDepth 20000 in
theorem ggX5_advise_X1_run : GoodIn wsX5_advise wsX1_run := goodIn_r _ [72, 20, 73, 74, 75, 14, 76, 77, 78, 79, 80, 18, 81, 82, 83, 84, 57, 85, 64, 86, 43, 44, 39, 45, 41, 87, 88, 89, 90, 91, 92, 16, 93, 94, 95, 96, 25, 97, 27, 8, 9, 10, 98, 99, 100, 101, 61, 65, 102, 103, 104, 105, 106, 107, 108, 109, 110, 111, 112, 113, 114, 115, 116, 117, 118, 119, 120, 121, 122, 123, 124, 125, 126, 127, 128, 129, 130, 131, 132, 133, 134, 135, 136, 137, 138, 139, 140, 141, 142, 28, 33, 35, 32, 34, 143, 144, 145, 146, 147, 148, 149, 150, 151, 152, 153, 154, 155, 19, 156, 157, 158, 159, 160, 161, 162, 163, 59, 60, 164, 165, 166, 167, 67, 168, 169, 170, 171, 66, 172, 173, 174, 175, 176, 177, 178, 179, 180, 17, 181, 182, 183, 184, 185, 186, 187, 188, 189, 190, 191, 192, 193, 49, 194, 51, 195, 196, 197, 198, 199, 200, 201, 63, 62, 202, 203, 204, 205, 206, 207, 208, 209, 210, 21, 211, 212, 213, 214, 215, 216, 217, 218, 219, 220, 221, 222, 223, 224, 225, 226, 227, 228, 229, 230, 231, 243, 244, 245, 246, 247, 248, 261, 262, 263, 264, 265, 266, 267, 268, 269, 258, 249, 250, 251, 252, 253, 254, 255, 256, 257, 259, 260] (by decide +kernel) (by decide +kernel)
set_option maxRecDepth 20000 in
theorem gX5_advise_X1_run : GoodIn wsX5_advise (wsV RX5 170 RX1 yX1_run wsX1_run) := goodIn_app (goodIn_of _ (by decide +kernel)) ggX5_advise_X1_run
set_option maxRecDepth 20000 in
theorem ggX5_advise_X4_canInsulate : GoodIn wsX5_advise wsX4_canInsulate := goodIn_r _ [235, 27, 31, 143, 43, 44, 39, 45, 41, 249, 250, 251, 252, 253, 254, 255, 256, 257, 258] (by decide +kernel) (by decide +kernel)
set_option maxRecDepth 20000 in
theorem gX5_advise_X4_canInsulate : GoodIn wsX5_advise (wsV RX5 97 RX4 yX4_canInsulate wsX4_canInsulate) := goodIn_app (goodIn_of _ (by decide +kernel)) ggX5_advise_X4_canInsulate
set_option maxRecDepth 20000 in
theorem ggX5_advise_X4_insulate : GoodIn wsX5_advise wsX4_insulate := goodIn_r _ [239, 30, 28, 32, 33, 34, 31, 143, 43, 44, 39, 45, 41, 144, 103, 104, 105, 240, 95, 96, 25, 97, 27, 145, 136, 137, 138, 249, 250, 251, 252, 253, 254, 255, 256, 257, 258] (by decide +kernel) (by decide +kernel)
set_option maxRecDepth 20000 in
theorem gX5_advise_X4_insulate : GoodIn wsX5_advise (wsV RX5 102 RX4 yX4_insulate wsX4_insulate) := goodIn_app (goodIn_of _ (by decide +kernel)) ggX5_advise_X4_insulate
theorem dX5_advise_0 : decode cX5_advise 0 = .ok (.iload_n 1, 1) := by decide +kernel
theorem dX5_advise_1 : decode cX5_advise 1 = .ok (.iconst 1, 1) := by decide +kernel
theorem dX5_advise_2 : decode cX5_advise 2 = .ok (.bipush 100, 2) := by decide +kernel
theorem dX5_advise_4 : decode cX5_advise 4 = .ok (.invokestatic 19, 3) := by decide +kernel
theorem dX5_advise_7 : decode cX5_advise 7 = .ok (.ifCond .eq 13, 3) := by decide +kernel
theorem dX5_advise_10 : decode cX5_advise 10 = .ok (.new 23, 3) := by decide +kernel
theorem dX5_advise_13 : decode cX5_advise 13 = .ok (.dup, 1) := by decide +kernel
theorem dX5_advise_14 : decode cX5_advise 14 = .ok (.ldc 188, 2) := by decide +kernel
theorem dX5_advise_16 : decode cX5_advise 16 = .ok (.invokespecial 27, 3) := by decide +kernel
theorem dX5_advise_19 : decode cX5_advise 19 = .ok (.athrow, 1) := by decide +kernel
theorem dX5_advise_20 : decode cX5_advise 20 = .ok (.aload_n 0, 1) := by decide +kernel
theorem dX5_advise_21 : decode cX5_advise 21 = .ok (.getfield 16, 3) := by decide +kernel
theorem dX5_advise_24 : decode cX5_advise 24 = .ok (.aload_n 0, 1) := by decide +kernel
theorem dX5_advise_25 : decode cX5_advise 25 = .ok (.getfield 10, 3) := by decide +kernel
theorem dX5_advise_28 : decode cX5_advise 28 = .ok (.invokevirtual 178, 3) := by decide +kernel
theorem dX5_advise_31 : decode cX5_advise 31 = .ok (.aload_n 0, 1) := by decide +kernel
theorem dX5_advise_32 : decode cX5_advise 32 = .ok (.getfield 16, 3) := by decide +kernel
theorem dX5_advise_35 : decode cX5_advise 35 = .ok (.iload_n 1, 1) := by decide +kernel
theorem dX5_advise_36 : decode cX5_advise 36 = .ok (.invokevirtual 170, 3) := by decide +kernel
theorem dX5_advise_39 : decode cX5_advise 39 = .ok (.istore_n 2, 1) := by decide +kernel
theorem dX5_advise_40 : decode cX5_advise 40 = .ok (.iconst (-1), 1) := by decide +kernel
theorem dX5_advise_41 : decode cX5_advise 41 = .ok (.istore_n 3, 1) := by decide +kernel
theorem dX5_advise_42 : decode cX5_advise 42 = .ok (.iconst 0, 1) := by decide +kernel
theorem dX5_advise_43 : decode cX5_advise 43 = .ok (.istore 4, 2) := by decide +kernel
theorem dX5_advise_45 : decode cX5_advise 45 = .ok (.iload 4, 2) := by decide +kernel
theorem dX5_advise_47 : decode cX5_advise 47 = .ok (.aload_n 0, 1) := by decide +kernel
theorem dX5_advise_48 : decode cX5_advise 48 = .ok (.getfield 10, 3) := by decide +kernel
theorem dX5_advise_51 : decode cX5_advise 51 = .ok (.getfield 45, 3) := by decide +kernel
theorem dX5_advise_54 : decode cX5_advise 54 = .ok (.getfield 49, 3) := by decide +kernel
theorem dX5_advise_57 : decode cX5_advise 57 = .ok (.if_icmp .ge 69, 3) := by decide +kernel
theorem dX5_advise_60 : decode cX5_advise 60 = .ok (.aload_n 0, 1) := by decide +kernel
theorem dX5_advise_61 : decode cX5_advise 61 = .ok (.getfield 10, 3) := by decide +kernel
theorem dX5_advise_64 : decode cX5_advise 64 = .ok (.getfield 45, 3) := by decide +kernel
theorem dX5_advise_67 : decode cX5_advise 67 = .ok (.iload 4, 2) := by decide +kernel
theorem dX5_advise_69 : decode cX5_advise 69 = .ok (.invokevirtual 97, 3) := by decide +kernel
theorem dX5_advise_72 : decode cX5_advise 72 = .ok (.ifCond .eq 48, 3) := by decide +kernel
theorem dX5_advise_75 : decode cX5_advise 75 = .ok (.aload_n 0, 1) := by decide +kernel
theorem dX5_advise_76 : decode cX5_advise 76 = .ok (.getfield 16, 3) := by decide +kernel
theorem dX5_advise_79 : decode cX5_advise 79 = .ok (.aload_n 0, 1) := by decide +kernel
theorem dX5_advise_80 : decode cX5_advise 80 = .ok (.getfield 10, 3) := by decide +kernel
theorem dX5_advise_83 : decode cX5_advise 83 = .ok (.invokevirtual 178, 3) := by decide +kernel
theorem dX5_advise_86 : decode cX5_advise 86 = .ok (.aload_n 0, 1) := by decide +kernel
theorem dX5_advise_87 : decode cX5_advise 87 = .ok (.getfield 16, 3) := by decide +kernel
theorem dX5_advise_90 : decode cX5_advise 90 = .ok (.getfield 45, 3) := by decide +kernel
theorem dX5_advise_93 : decode cX5_advise 93 = .ok (.iload 4, 2) := by decide +kernel
theorem dX5_advise_95 : decode cX5_advise 95 = .ok (.invokevirtual 102, 3) := by decide +kernel
theorem dX5_advise_98 : decode cX5_advise 98 = .ok (.aload_n 0, 1) := by decide +kernel
theorem dX5_advise_99 : decode cX5_advise 99 = .ok (.getfield 16, 3) := by decide +kernel
theorem dX5_advise_102 : decode cX5_advise 102 = .ok (.iload_n 1, 1) := by decide +kernel
theorem dX5_advise_103 : decode cX5_advise 103 = .ok (.invokevirtual 170, 3) := by decide +kernel
theorem dX5_advise_106 : decode cX5_advise 106 = .ok (.istore 5, 2) := by decide +kernel
theorem dX5_advise_108 : decode cX5_advise 108 = .ok (.iload 5, 2) := by decide +kernel
theorem dX5_advise_110 : decode cX5_advise 110 = .ok (.iload_n 2, 1) := by decide +kernel
theorem dX5_advise_111 : decode cX5_advise 111 = .ok (.if_icmp .le 9, 3) := by decide +kernel
theorem dX5_advise_114 : decode cX5_advise 114 = .ok (.iload 5, 2) := by decide +kernel
theorem dX5_advise_116 : decode cX5_advise 116 = .ok (.istore_n 2, 1) := by decide +kernel
theorem dX5_advise_117 : decode cX5_advise 117 = .ok (.iload 4, 2) := by decide +kernel
theorem dX5_advise_119 : decode cX5_advise 119 = .ok (.istore_n 3, 1) := by decide +kernel
theorem dX5_advise_120 : decode cX5_advise 120 = .ok (.iinc 4 1, 3) := by decide +kernel
theorem dX5_advise_123 : decode cX5_advise 123 = .ok (.goto (-78), 3) := by decide +kernel
theorem dX5_advise_126 : decode cX5_advise 126 = .ok (.iload_n 3, 1) := by decide +kernel
theorem dX5_advise_127 : decode cX5_advise 127 = .ok (.ireturn, 1) := by decide +kernel
set_option maxRecDepth 20000 in
theorem ggX5_foresee_X5_outside : GoodIn wsX5_foresee wsX5_outside := goodIn_r _ [14] (by decide +kernel) (by decide +kernel)
set_option maxRecDepth 20000 in
theorem gX5_foresee_X5_outside : GoodIn wsX5_foresee (va_wsS RX5 19 yX5_outside wsX5_outside) := goodIn_app (goodIn_of _ (by decide +kernel)) ggX5_foresee_X5_outside
set_option maxRecDepth 20000 in
theorem ggX5_foresee_X1_copyFrom : GoodIn wsX5_foresee wsX1_copyFrom := goodIn_r _ [19, 20, 21, 22, 23, 24, 25, 26, 27, 28, 29, 30, 31, 32, 33, 34, 35, 36, 37, 38, 39, 40, 41, 42, 43, 44, 45, 46, 47, 48, 49, 50, 51, 52, 53, 54, 55, 56, 57, 58, 59, 60, 61, 62, 63, 64, 65, 66, 67, 68, 69, 70, 71, 72, 242, 243, 244, 245, 246, 247, 259, 260, 261, 262, 263, 264, 265, 266, 267, 268, 248, 249, 250, 251, 252, 253, 254, 255, 256, 257, 258] (by decide +kernel) (by decide +kernel)
set_option maxRecDepth 20000 in
theorem gX5_foresee_X1_copyFrom : GoodIn wsX5_foresee (wsV RX5 178 RX1 yX1_copyFrom wsX1_copyFrom) := goodIn_app (goodIn_of _ (by decide +kernel)) ggX5_foresee_X1_copyFrom
set_option maxRecDepth 20000 in
theorem ggX5_foresee_X1_run : GoodIn wsX5_foresee wsX1_run := goodIn_r _ [76, 24, 77, 78, 79, 18, 80, 81, 82, 83, 84, 22, 85, 86, 87, 88, 61, 89, 68, 90, 47, 48, 43, 49, 45, 91, 92, 93, 94, 95, 96, 20, 97, 98, 99, 100, 29, 101, 31, 12, 13, 14, 102, 103, 104, 105, 65, 69, 106, 107, 108, 109, 110, 111, 112, 113, 114, 115, 116, 117, 118, 119, 120, 121, 122, 123, 124, 125, 126, 127, 128, 129, 130, 131, 132, 133, 134, 135, 136, 137, 138, 139, 140, 141, 142, 143, 144, 145, 146, 32, 37, 39, 36, 38, 147, 148, 149, 150, 151, 152, 153, 154, 155, 156, 157, 158, 159, 23, 160, 161, 162, 163, 164, 165, 166, 167, 63, 64, 168, 169, 170, 171, 71, 172, 173, 174, 175, 70, 176, 177, 178, 179, 180, 181, 182, 183, 184, 21, 185, 186, 187, 188, 189, 190, 191, 192, 193, 194, 195, 196, 197, 53, 198, 55, 199, 200, 201, 202, 203, 204, 205, 67, 66, 206, 207, 208, 209, 210, 211, 212, 213, 214, 25, 215, 216, 217, 218, 219, 220, 221, 222, 223, 224, 225, 226, 227, 228, 229, 230, 231, 232, 233, 234, 235, 242, 243, 244, 245, 246, 247, 250, 251, 252, 253, 254, 255, 256, 257, 258, 268, 259, 260, 261, 262, 263, 264, 265, 266, 267, 248, 249] (by decide +kernel) (by decide +kernel)
set_option maxRecDepth 20000 in
theorem gX5_foresee_X1_run : GoodIn wsX5_foresee (wsV RX5 170 RX1 yX1_run wsX1_run) := goodIn_app (goodIn_of _ (by decide +kernel)) ggX5_foresee_X1_run
set_option maxRecDepth 20000 in
theorem ggX5_foresee_X2_sum : GoodIn wsX5_foresee wsX2_sum := goodIn_r _ [239, 45, 268] (by decide +kernel) (by decide +kernel)
set_option maxRecDepth 20000 in
theorem gX5_foresee_X2_sum : GoodIn wsX5_foresee (wsV RX5 197 RX2 yX2_sum wsX2_sum) := goodIn_app (goodIn_of _ (by decide +kernel)) ggX5_foresee_X2_sum
theorem dX5_foresee_0 : decode cX5_foresee 0 = .ok (.iload_n 1, 1) := by decide +kernel
theorem dX5_foresee_1 : decode cX5_foresee 1 = .ok (.iconst 1, 1) := by decide +kernel
theorem dX5_foresee_2 : decode cX5_foresee 2 = .ok (.sipush 150, 3) := by decide +kernel
theorem dX5_foresee_5 : decode cX5_foresee 5 = .ok (.invokestatic 19, 3) := by decide +kernel
theorem dX5_foresee_8 : decode cX5_foresee 8 = .ok (.ifCond .eq 13, 3) := by decide +kernel
theorem dX5_foresee_11 : decode cX5_foresee 11 = .ok (.new 23, 3) := by decide +kernel
theorem dX5_foresee_14 : decode cX5_foresee 14 = .ok (.dup, 1) := by decide +kernel
theorem dX5_foresee_15 : decode cX5_foresee 15 = .ok (.ldc 193, 2) := by decide +kernel
theorem dX5_foresee_17 : decode cX5_foresee 17 = .ok (.invokespecial 27, 3) := by decide +kernel
theorem dX5_foresee_20 : decode cX5_foresee 20 = .ok (.athrow, 1) := by decide +kernel
theorem dX5_foresee_21 : decode cX5_foresee 21 = .ok (.iload_n 2, 1) := by decide +kernel
theorem dX5_foresee_22 : decode cX5_foresee 22 = .ok (.iconst 0, 1) := by decide +kernel
theorem dX5_foresee_23 : decode cX5_foresee 23 = .ok (.iconst 2, 1) := by decide +kernel
theorem dX5_foresee_24 : decode cX5_foresee 24 = .ok (.invokestatic 19, 3) := by decide +kernel
theorem dX5_foresee_27 : decode cX5_foresee 27 = .ok (.ifCond .eq 13, 3) := by decide +kernel
theorem dX5_foresee_30 : decode cX5_foresee 30 = .ok (.new 71, 3) := by decide +kernel
theorem dX5_foresee_33 : decode cX5_foresee 33 = .ok (.dup, 1) := by decide +kernel
theorem dX5_foresee_34 : decode cX5_foresee 34 = .ok (.ldc 195, 2) := by decide +kernel
theorem dX5_foresee_36 : decode cX5_foresee 36 = .ok (.invokespecial 75, 3) := by decide +kernel
theorem dX5_foresee_39 : decode cX5_foresee 39 = .ok (.athrow, 1) := by decide +kernel
theorem dX5_foresee_40 : decode cX5_foresee 40 = .ok (.aload_n 0, 1) := by decide +kernel
theorem dX5_foresee_41 : decode cX5_foresee 41 = .ok (.getfield 16, 3) := by decide +kernel
theorem dX5_foresee_44 : decode cX5_foresee 44 = .ok (.aload_n 0, 1) := by decide +kernel
theorem dX5_foresee_45 : decode cX5_foresee 45 = .ok (.getfield 10, 3) := by decide +kernel
theorem dX5_foresee_48 : decode cX5_foresee 48 = .ok (.invokevirtual 178, 3) := by decide +kernel
theorem dX5_foresee_51 : decode cX5_foresee 51 = .ok (.aload_n 0, 1) := by decide +kernel
theorem dX5_foresee_52 : decode cX5_foresee 52 = .ok (.getfield 16, 3) := by decide +kernel
theorem dX5_foresee_55 : decode cX5_foresee 55 = .ok (.iload_n 1, 1) := by decide +kernel
theorem dX5_foresee_56 : decode cX5_foresee 56 = .ok (.invokevirtual 170, 3) := by decide +kernel
theorem dX5_foresee_59 : decode cX5_foresee 59 = .ok (.istore_n 3, 1) := by decide +kernel
theorem dX5_foresee_60 : decode cX5_foresee 60 = .ok (.iload_n 2, 1) := by decide +kernel
theorem dX5_foresee_61 : decode cX5_foresee 61 = .ok (.lookupswitch 43 #[(0, 27), (1, 29)], 27) := by decide +kernel
theorem dX5_foresee_88 : decode cX5_foresee 88 = .ok (.iload_n 3, 1) := by decide +kernel
theorem dX5_foresee_89 : decode cX5_foresee 89 = .ok (.ireturn, 1) := by decide +kernel
theorem dX5_foresee_90 : decode cX5_foresee 90 = .ok (.aload_n 0, 1) := by decide +kernel
theorem dX5_foresee_91 : decode cX5_foresee 91 = .ok (.getfield 16, 3) := by decide +kernel
theorem dX5_foresee_94 : decode cX5_foresee 94 = .ok (.getfield 58, 3) := by decide +kernel
theorem dX5_foresee_97 : decode cX5_foresee 97 = .ok (.getfield 136, 3) := by decide +kernel
theorem dX5_foresee_100 : decode cX5_foresee 100 = .ok (.invokevirtual 197, 3) := by decide +kernel
theorem dX5_foresee_103 : decode cX5_foresee 103 = .ok (.ireturn, 1) := by decide +kernel
theorem dX5_foresee_104 : decode cX5_foresee 104 = .ok (.aload_n 0, 1) := by decide +kernel
theorem dX5_foresee_105 : decode cX5_foresee 105 = .ok (.getfield 16, 3) := by decide +kernel
theorem dX5_foresee_108 : decode cX5_foresee 108 = .ok (.getfield 30, 3) := by decide +kernel
theorem dX5_foresee_111 : decode cX5_foresee 111 = .ok (.getfield 201, 3) := by decide +kernel
theorem dX5_foresee_114 : decode cX5_foresee 114 = .ok (.invokevirtual 197, 3) := by decide +kernel
theorem dX5_foresee_117 : decode cX5_foresee 117 = .ok (.ireturn, 1) := by decide +kernel
set_option maxRecDepth 20000 in
theorem ggX5_mean_X2_sum : GoodIn wsX5_mean wsX2_sum := goodIn_r _ [10, 11, 31] (by decide +kernel) (by decide +kernel)
set_option maxRecDepth 20000 in
theorem gX5_mean_X2_sum : GoodIn wsX5_mean (wsV RX5 197 RX2 yX2_sum wsX2_sum) := goodIn_app (goodIn_of _ (by decide +kernel)) ggX5_mean_X2_sum
theorem dX5_mean_0 : decode cX5_mean 0 = .ok (.aload_n 0, 1) := by decide +kernel
theorem dX5_mean_1 : decode cX5_mean 1 = .ok (.getfield 10, 3) := by decide +kernel
theorem dX5_mean_4 : decode cX5_mean 4 = .ok (.getfield 45, 3) := by decide +kernel
theorem dX5_mean_7 : decode cX5_mean 7 = .ok (.getfield 49, 3) := by decide +kernel
theorem dX5_mean_10 : decode cX5_mean 10 = .ok (.istore_n 1, 1) := by decide +kernel
theorem dX5_mean_11 : decode cX5_mean 11 = .ok (.iload_n 1, 1) := by decide +kernel
theorem dX5_mean_12 : decode cX5_mean 12 = .ok (.ifCond .le 23, 3) := by decide +kernel
theorem dX5_mean_15 : decode cX5_mean 15 = .ok (.aload_n 0, 1) := by decide +kernel
theorem dX5_mean_16 : decode cX5_mean 16 = .ok (.getfield 10, 3) := by decide +kernel
theorem dX5_mean_19 : decode cX5_mean 19 = .ok (.getfield 58, 3) := by decide +kernel
theorem dX5_mean_22 : decode cX5_mean 22 = .ok (.getfield 136, 3) := by decide +kernel
theorem dX5_mean_25 : decode cX5_mean 25 = .ok (.invokevirtual 197, 3) := by decide +kernel
theorem dX5_mean_28 : decode cX5_mean 28 = .ok (.i2d, 1) := by decide +kernel
theorem dX5_mean_29 : decode cX5_mean 29 = .ok (.iload_n 1, 1) := by decide +kernel
theorem dX5_mean_30 : decode cX5_mean 30 = .ok (.i2d, 1) := by decide +kernel
theorem dX5_mean_31 : decode cX5_mean 31 = .ok (.ddiv, 1) := by decide +kernel
theorem dX5_mean_32 : decode cX5_mean 32 = .ok (.goto 4, 3) := by decide +kernel
theorem dX5_mean_35 : decode cX5_mean 35 = .ok (.dconst 0, 1) := by decide +kernel
theorem dX5_mean_36 : decode cX5_mean 36 = .ok (.dreturn, 1) := by decide +kernel
set_option maxRecDepth 20000 in
theorem ggX5_digest_X1_total : GoodIn wsX5_digest wsX1_total := goodIn_r _ [15, 16, 17, 18, 19, 20, 21, 22, 23, 24, 25, 26, 27, 28, 29, 30, 31, 32, 33, 34, 35, 36, 37, 38, 39, 40, 41, 42, 43, 44, 45, 46, 47, 48, 49, 50, 51, 52, 53, 54, 55, 134, 135, 136, 137, 138, 139, 140, 141, 142, 143, 144, 145, 146, 147, 148, 149, 150, 151, 152, 153, 154, 155, 156, 157, 158, 159, 160] (by decide +kernel) (by decide +kernel)
set_option maxRecDepth 20000 in
theorem gX5_digest_X1_total : GoodIn wsX5_digest (wsV RX5 175 RX1 yX1_total wsX1_total) := goodIn_app (goodIn_of _ (by decide +kernel)) ggX5_digest_X1_total
set_option maxRecDepth 20000 in
theorem ggX5_digest_X1_poleFact : GoodIn wsX5_digest wsX1_poleFact := goodIn_r _ [59, 23, 24, 20, 17, 60, 61, 62, 36, 37, 38, 39, 40, 63, 64, 65, 66, 67, 68, 69, 70, 134, 135, 136, 137, 138, 139, 158, 159, 140, 141, 142, 143, 144, 145, 146, 147, 148, 160, 149, 150, 151, 152, 153, 154, 155, 156, 157] (by decide +kernel) (by decide +kernel)
set_option maxRecDepth 20000 in
theorem gX5_digest_X1_poleFact : GoodIn wsX5_digest (wsV RX5 152 RX1 yX1_poleFact wsX1_poleFact) := goodIn_app (goodIn_of _ (by decide +kernel)) ggX5_digest_X1_poleFact
set_option maxRecDepth 20000 in
theorem ggX5_digest_X4_spans : GoodIn wsX5_digest wsX4_spans := goodIn_r _ [74, 75, 140, 141, 142, 143, 144, 145, 146, 147, 148] (by decide +kernel) (by decide +kernel)
set_option maxRecDepth 20000 in
theorem gX5_digest_X4_spans : GoodIn wsX5_digest (wsV RX5 208 RX4 yX4_spans wsX4_spans) := goodIn_app (goodIn_of _ (by decide +kernel)) ggX5_digest_X4_spans
set_option maxRecDepth 20000 in
theorem ggX5_digest_X2_at : GoodIn wsX5_digest wsX2_at := goodIn_r _ [39, 40, 160] (by decide +kernel) (by decide +kernel)
set_option maxRecDepth 20000 in
theorem gX5_digest_X2_at : GoodIn wsX5_digest (wsV RX5 82 RX2 yX2_at wsX2_at) := goodIn_app (goodIn_of _ (by decide +kernel)) ggX5_digest_X2_at
set_option maxRecDepth 20000 in
theorem ggX5_digest_X1_sectionFact : GoodIn wsX5_digest wsX1_sectionFact := goodIn_r _ [80, 17, 81, 82, 83, 84, 85, 86, 31, 87, 88, 89, 72, 73, 74, 75, 35, 36, 37, 38, 39, 40, 62, 90, 91, 92, 14, 93, 20, 21, 94, 95, 96, 97, 98, 99, 100, 101, 102, 103, 104, 105, 106, 107, 108, 109, 110, 111, 112, 113, 114, 52, 53, 54, 25, 115, 116, 117, 66, 118, 119, 70, 120, 121, 122, 123, 124, 134, 135, 136, 137, 138, 139, 140, 141, 142, 143, 144, 145, 146, 147, 148, 160, 149, 150, 151, 152, 153, 154, 155, 156, 157] (by decide +kernel) (by decide +kernel)
set_option maxRecDepth 20000 in
theorem gX5_digest_X1_sectionFact : GoodIn wsX5_digest (wsV RX5 160 RX1 yX1_sectionFact wsX1_sectionFact) := goodIn_app (goodIn_of _ (by decide +kernel)) ggX5_digest_X1_sectionFact
set_option maxRecDepth 20000 in
theorem ggX5_digest_X1_carFact : GoodIn wsX5_digest wsX1_carFact := goodIn_r _ [128, 20, 104, 103, 25, 129, 22, 130, 131, 62, 36, 37, 38, 39, 40, 109, 110, 111, 14, 112, 17, 113, 114, 52, 53, 54, 99, 100, 101, 102, 105, 72, 73, 31, 74, 75, 106, 107, 108, 115, 116, 117, 66, 118, 119, 70, 120, 121, 122, 123, 124, 134, 135, 136, 137, 138, 139, 149, 150, 151, 152, 153, 154, 155, 156, 157, 160, 140, 141, 142, 143, 144, 145, 146, 147, 148] (by decide +kernel) (by decide +kernel)
set_option maxRecDepth 20000 in
theorem gX5_digest_X1_carFact : GoodIn wsX5_digest (wsV RX5 165 RX1 yX1_carFact wsX1_carFact) := goodIn_app (goodIn_of _ (by decide +kernel)) ggX5_digest_X1_carFact
theorem dX5_digest_0 : decode cX5_digest 0 = .ok (.ldc2_w 204, 3) := by decide +kernel
theorem dX5_digest_3 : decode cX5_digest 3 = .ok (.lstore_n 1, 1) := by decide +kernel
theorem dX5_digest_4 : decode cX5_digest 4 = .ok (.iconst 0, 1) := by decide +kernel
theorem dX5_digest_5 : decode cX5_digest 5 = .ok (.istore_n 3, 1) := by decide +kernel
theorem dX5_digest_6 : decode cX5_digest 6 = .ok (.iload_n 3, 1) := by decide +kernel
theorem dX5_digest_7 : decode cX5_digest 7 = .ok (.bipush 11, 2) := by decide +kernel
theorem dX5_digest_9 : decode cX5_digest 9 = .ok (.if_icmp .ge 25, 3) := by decide +kernel
theorem dX5_digest_12 : decode cX5_digest 12 = .ok (.lload_n 1, 1) := by decide +kernel
theorem dX5_digest_13 : decode cX5_digest 13 = .ok (.ldc2_w 206, 3) := by decide +kernel
theorem dX5_digest_16 : decode cX5_digest 16 = .ok (.lmul, 1) := by decide +kernel
theorem dX5_digest_17 : decode cX5_digest 17 = .ok (.aload_n 0, 1) := by decide +kernel
theorem dX5_digest_18 : decode cX5_digest 18 = .ok (.getfield 10, 3) := by decide +kernel
theorem dX5_digest_21 : decode cX5_digest 21 = .ok (.iload_n 3, 1) := by decide +kernel
theorem dX5_digest_22 : decode cX5_digest 22 = .ok (.invokevirtual 175, 3) := by decide +kernel
theorem dX5_digest_25 : decode cX5_digest 25 = .ok (.i2l, 1) := by decide +kernel
theorem dX5_digest_26 : decode cX5_digest 26 = .ok (.ladd, 1) := by decide +kernel
theorem dX5_digest_27 : decode cX5_digest 27 = .ok (.lstore_n 1, 1) := by decide +kernel
theorem dX5_digest_28 : decode cX5_digest 28 = .ok (.iinc 3 1, 3) := by decide +kernel
theorem dX5_digest_31 : decode cX5_digest 31 = .ok (.goto (-25), 3) := by decide +kernel
theorem dX5_digest_34 : decode cX5_digest 34 = .ok (.iconst 0, 1) := by decide +kernel
theorem dX5_digest_35 : decode cX5_digest 35 = .ok (.istore_n 3, 1) := by decide +kernel
theorem dX5_digest_36 : decode cX5_digest 36 = .ok (.iload_n 3, 1) := by decide +kernel
theorem dX5_digest_37 : decode cX5_digest 37 = .ok (.aload_n 0, 1) := by decide +kernel
theorem dX5_digest_38 : decode cX5_digest 38 = .ok (.getfield 10, 3) := by decide +kernel
theorem dX5_digest_41 : decode cX5_digest 41 = .ok (.getfield 45, 3) := by decide +kernel
theorem dX5_digest_44 : decode cX5_digest 44 = .ok (.getfield 49, 3) := by decide +kernel
theorem dX5_digest_47 : decode cX5_digest 47 = .ok (.iconst 4, 1) := by decide +kernel
theorem dX5_digest_48 : decode cX5_digest 48 = .ok (.imul, 1) := by decide +kernel
theorem dX5_digest_49 : decode cX5_digest 49 = .ok (.if_icmp .ge 30, 3) := by decide +kernel
theorem dX5_digest_52 : decode cX5_digest 52 = .ok (.lload_n 1, 1) := by decide +kernel
theorem dX5_digest_53 : decode cX5_digest 53 = .ok (.ldc2_w 206, 3) := by decide +kernel
theorem dX5_digest_56 : decode cX5_digest 56 = .ok (.lmul, 1) := by decide +kernel
theorem dX5_digest_57 : decode cX5_digest 57 = .ok (.aload_n 0, 1) := by decide +kernel
theorem dX5_digest_58 : decode cX5_digest 58 = .ok (.getfield 10, 3) := by decide +kernel
theorem dX5_digest_61 : decode cX5_digest 61 = .ok (.iload_n 3, 1) := by decide +kernel
theorem dX5_digest_62 : decode cX5_digest 62 = .ok (.iconst 4, 1) := by decide +kernel
theorem dX5_digest_63 : decode cX5_digest 63 = .ok (.idiv, 1) := by decide +kernel
theorem dX5_digest_64 : decode cX5_digest 64 = .ok (.iload_n 3, 1) := by decide +kernel
theorem dX5_digest_65 : decode cX5_digest 65 = .ok (.iconst 4, 1) := by decide +kernel
theorem dX5_digest_66 : decode cX5_digest 66 = .ok (.irem, 1) := by decide +kernel
theorem dX5_digest_67 : decode cX5_digest 67 = .ok (.invokevirtual 152, 3) := by decide +kernel
theorem dX5_digest_70 : decode cX5_digest 70 = .ok (.i2l, 1) := by decide +kernel
theorem dX5_digest_71 : decode cX5_digest 71 = .ok (.ladd, 1) := by decide +kernel
theorem dX5_digest_72 : decode cX5_digest 72 = .ok (.lstore_n 1, 1) := by decide +kernel
theorem dX5_digest_73 : decode cX5_digest 73 = .ok (.iinc 3 1, 3) := by decide +kernel
theorem dX5_digest_76 : decode cX5_digest 76 = .ok (.goto (-40), 3) := by decide +kernel
theorem dX5_digest_79 : decode cX5_digest 79 = .ok (.iconst 0, 1) := by decide +kernel
theorem dX5_digest_80 : decode cX5_digest 80 = .ok (.istore_n 3, 1) := by decide +kernel
theorem dX5_digest_81 : decode cX5_digest 81 = .ok (.iload_n 3, 1) := by decide +kernel
theorem dX5_digest_82 : decode cX5_digest 82 = .ok (.aload_n 0, 1) := by decide +kernel
theorem dX5_digest_83 : decode cX5_digest 83 = .ok (.getfield 10, 3) := by decide +kernel
theorem dX5_digest_86 : decode cX5_digest 86 = .ok (.getfield 45, 3) := by decide +kernel
theorem dX5_digest_89 : decode cX5_digest 89 = .ok (.invokevirtual 208, 3) := by decide +kernel
theorem dX5_digest_92 : decode cX5_digest 92 = .ok (.if_icmp .ge 53, 3) := by decide +kernel
theorem dX5_digest_95 : decode cX5_digest 95 = .ok (.lload_n 1, 1) := by decide +kernel
theorem dX5_digest_96 : decode cX5_digest 96 = .ok (.ldc2_w 206, 3) := by decide +kernel
theorem dX5_digest_99 : decode cX5_digest 99 = .ok (.lmul, 1) := by decide +kernel
theorem dX5_digest_100 : decode cX5_digest 100 = .ok (.aload_n 0, 1) := by decide +kernel
theorem dX5_digest_101 : decode cX5_digest 101 = .ok (.getfield 10, 3) := by decide +kernel
theorem dX5_digest_104 : decode cX5_digest 104 = .ok (.getfield 45, 3) := by decide +kernel
theorem dX5_digest_107 : decode cX5_digest 107 = .ok (.getfield 78, 3) := by decide +kernel
theorem dX5_digest_110 : decode cX5_digest 110 = .ok (.iload_n 3, 1) := by decide +kernel
theorem dX5_digest_111 : decode cX5_digest 111 = .ok (.invokevirtual 82, 3) := by decide +kernel
theorem dX5_digest_114 : decode cX5_digest 114 = .ok (.i2l, 1) := by decide +kernel
theorem dX5_digest_115 : decode cX5_digest 115 = .ok (.ladd, 1) := by decide +kernel
theorem dX5_digest_116 : decode cX5_digest 116 = .ok (.lstore_n 1, 1) := by decide +kernel
theorem dX5_digest_117 : decode cX5_digest 117 = .ok (.lload_n 1, 1) := by decide +kernel
theorem dX5_digest_118 : decode cX5_digest 118 = .ok (.ldc2_w 206, 3) := by decide +kernel
theorem dX5_digest_121 : decode cX5_digest 121 = .ok (.lmul, 1) := by decide +kernel
theorem dX5_digest_122 : decode cX5_digest 122 = .ok (.aload_n 0, 1) := by decide +kernel
theorem dX5_digest_123 : decode cX5_digest 123 = .ok (.getfield 10, 3) := by decide +kernel
theorem dX5_digest_126 : decode cX5_digest 126 = .ok (.getfield 45, 3) := by decide +kernel
theorem dX5_digest_129 : decode cX5_digest 129 = .ok (.getfield 155, 3) := by decide +kernel
theorem dX5_digest_132 : decode cX5_digest 132 = .ok (.iload_n 3, 1) := by decide +kernel
theorem dX5_digest_133 : decode cX5_digest 133 = .ok (.invokevirtual 82, 3) := by decide +kernel
theorem dX5_digest_136 : decode cX5_digest 136 = .ok (.i2l, 1) := by decide +kernel
theorem dX5_digest_137 : decode cX5_digest 137 = .ok (.ladd, 1) := by decide +kernel
theorem dX5_digest_138 : decode cX5_digest 138 = .ok (.lstore_n 1, 1) := by decide +kernel
theorem dX5_digest_139 : decode cX5_digest 139 = .ok (.iinc 3 1, 3) := by decide +kernel
theorem dX5_digest_142 : decode cX5_digest 142 = .ok (.goto (-61), 3) := by decide +kernel
theorem dX5_digest_145 : decode cX5_digest 145 = .ok (.iconst 0, 1) := by decide +kernel
theorem dX5_digest_146 : decode cX5_digest 146 = .ok (.istore_n 3, 1) := by decide +kernel
theorem dX5_digest_147 : decode cX5_digest 147 = .ok (.iload_n 3, 1) := by decide +kernel
theorem dX5_digest_148 : decode cX5_digest 148 = .ok (.aload_n 0, 1) := by decide +kernel
theorem dX5_digest_149 : decode cX5_digest 149 = .ok (.getfield 10, 3) := by decide +kernel
theorem dX5_digest_152 : decode cX5_digest 152 = .ok (.getfield 45, 3) := by decide +kernel
theorem dX5_digest_155 : decode cX5_digest 155 = .ok (.getfield 105, 3) := by decide +kernel
theorem dX5_digest_158 : decode cX5_digest 158 = .ok (.bipush 6, 2) := by decide +kernel
theorem dX5_digest_160 : decode cX5_digest 160 = .ok (.imul, 1) := by decide +kernel
theorem dX5_digest_161 : decode cX5_digest 161 = .ok (.if_icmp .ge 32, 3) := by decide +kernel
theorem dX5_digest_164 : decode cX5_digest 164 = .ok (.lload_n 1, 1) := by decide +kernel
theorem dX5_digest_165 : decode cX5_digest 165 = .ok (.ldc2_w 206, 3) := by decide +kernel
theorem dX5_digest_168 : decode cX5_digest 168 = .ok (.lmul, 1) := by decide +kernel
theorem dX5_digest_169 : decode cX5_digest 169 = .ok (.aload_n 0, 1) := by decide +kernel
theorem dX5_digest_170 : decode cX5_digest 170 = .ok (.getfield 10, 3) := by decide +kernel
theorem dX5_digest_173 : decode cX5_digest 173 = .ok (.iload_n 3, 1) := by decide +kernel
theorem dX5_digest_174 : decode cX5_digest 174 = .ok (.bipush 6, 2) := by decide +kernel
theorem dX5_digest_176 : decode cX5_digest 176 = .ok (.idiv, 1) := by decide +kernel
theorem dX5_digest_177 : decode cX5_digest 177 = .ok (.iload_n 3, 1) := by decide +kernel
theorem dX5_digest_178 : decode cX5_digest 178 = .ok (.bipush 6, 2) := by decide +kernel
theorem dX5_digest_180 : decode cX5_digest 180 = .ok (.irem, 1) := by decide +kernel
theorem dX5_digest_181 : decode cX5_digest 181 = .ok (.invokevirtual 160, 3) := by decide +kernel
theorem dX5_digest_184 : decode cX5_digest 184 = .ok (.i2l, 1) := by decide +kernel
theorem dX5_digest_185 : decode cX5_digest 185 = .ok (.ladd, 1) := by decide +kernel
theorem dX5_digest_186 : decode cX5_digest 186 = .ok (.lstore_n 1, 1) := by decide +kernel
theorem dX5_digest_187 : decode cX5_digest 187 = .ok (.iinc 3 1, 3) := by decide +kernel
theorem dX5_digest_190 : decode cX5_digest 190 = .ok (.goto (-43), 3) := by decide +kernel
theorem dX5_digest_193 : decode cX5_digest 193 = .ok (.iconst 0, 1) := by decide +kernel
theorem dX5_digest_194 : decode cX5_digest 194 = .ok (.istore_n 3, 1) := by decide +kernel
theorem dX5_digest_195 : decode cX5_digest 195 = .ok (.iload_n 3, 1) := by decide +kernel
theorem dX5_digest_196 : decode cX5_digest 196 = .ok (.aload_n 0, 1) := by decide +kernel
theorem dX5_digest_197 : decode cX5_digest 197 = .ok (.getfield 10, 3) := by decide +kernel
theorem dX5_digest_200 : decode cX5_digest 200 = .ok (.getfield 30, 3) := by decide +kernel
theorem dX5_digest_203 : decode cX5_digest 203 = .ok (.getfield 34, 3) := by decide +kernel
theorem dX5_digest_206 : decode cX5_digest 206 = .ok (.bipush 8, 2) := by decide +kernel
theorem dX5_digest_208 : decode cX5_digest 208 = .ok (.imul, 1) := by decide +kernel
theorem dX5_digest_209 : decode cX5_digest 209 = .ok (.if_icmp .ge 32, 3) := by decide +kernel
theorem dX5_digest_212 : decode cX5_digest 212 = .ok (.lload_n 1, 1) := by decide +kernel
theorem dX5_digest_213 : decode cX5_digest 213 = .ok (.ldc2_w 206, 3) := by decide +kernel
theorem dX5_digest_216 : decode cX5_digest 216 = .ok (.lmul, 1) := by decide +kernel
theorem dX5_digest_217 : decode cX5_digest 217 = .ok (.aload_n 0, 1) := by decide +kernel
theorem dX5_digest_218 : decode cX5_digest 218 = .ok (.getfield 10, 3) := by decide +kernel
theorem dX5_digest_221 : decode cX5_digest 221 = .ok (.iload_n 3, 1) := by decide +kernel
theorem dX5_digest_222 : decode cX5_digest 222 = .ok (.bipush 8, 2) := by decide +kernel
theorem dX5_digest_224 : decode cX5_digest 224 = .ok (.idiv, 1) := by decide +kernel
theorem dX5_digest_225 : decode cX5_digest 225 = .ok (.iload_n 3, 1) := by decide +kernel
theorem dX5_digest_226 : decode cX5_digest 226 = .ok (.bipush 8, 2) := by decide +kernel
theorem dX5_digest_228 : decode cX5_digest 228 = .ok (.irem, 1) := by decide +kernel
theorem dX5_digest_229 : decode cX5_digest 229 = .ok (.invokevirtual 165, 3) := by decide +kernel
theorem dX5_digest_232 : decode cX5_digest 232 = .ok (.i2l, 1) := by decide +kernel
theorem dX5_digest_233 : decode cX5_digest 233 = .ok (.ladd, 1) := by decide +kernel
theorem dX5_digest_234 : decode cX5_digest 234 = .ok (.lstore_n 1, 1) := by decide +kernel
theorem dX5_digest_235 : decode cX5_digest 235 = .ok (.iinc 3 1, 3) := by decide +kernel
theorem dX5_digest_238 : decode cX5_digest 238 = .ok (.goto (-43), 3) := by decide +kernel
theorem dX5_digest_241 : decode cX5_digest 241 = .ok (.lload_n 1, 1) := by decide +kernel
theorem dX5_digest_242 : decode cX5_digest 242 = .ok (.lreturn, 1) := by decide +kernel
theorem dX5_outside_0 : decode cX5_outside 0 = .ok (.iload_n 0, 1) := by decide +kernel
theorem dX5_outside_1 : decode cX5_outside 1 = .ok (.iload_n 1, 1) := by decide +kernel
theorem dX5_outside_2 : decode cX5_outside 2 = .ok (.if_icmp .lt 8, 3) := by decide +kernel
theorem dX5_outside_5 : decode cX5_outside 5 = .ok (.iload_n 0, 1) := by decide +kernel
theorem dX5_outside_6 : decode cX5_outside 6 = .ok (.iload_n 2, 1) := by decide +kernel
theorem dX5_outside_7 : decode cX5_outside 7 = .ok (.if_icmp .le 7, 3) := by decide +kernel
theorem dX5_outside_10 : decode cX5_outside 10 = .ok (.iconst 1, 1) := by decide +kernel
theorem dX5_outside_11 : decode cX5_outside 11 = .ok (.goto 4, 3) := by decide +kernel
theorem dX5_outside_14 : decode cX5_outside 14 = .ok (.iconst 0, 1) := by decide +kernel
theorem dX5_outside_15 : decode cX5_outside 15 = .ok (.ireturn, 1) := by decide +kernel
set_option maxRecDepth 20000 in
theorem ggX5_noPole_X5_outside : GoodIn wsX5_noPole wsX5_outside := goodIn_r _ [7] (by decide +kernel) (by decide +kernel)
set_option maxRecDepth 20000 in
theorem gX5_noPole_X5_outside : GoodIn wsX5_noPole (va_wsS RX5 19 yX5_outside wsX5_outside) := goodIn_app (goodIn_of _ (by decide +kernel)) ggX5_noPole_X5_outside
theorem dX5_noPole_0 : decode cX5_noPole 0 = .ok (.iload_n 1, 1) := by decide +kernel
theorem dX5_noPole_1 : decode cX5_noPole 1 = .ok (.iconst 0, 1) := by decide +kernel
theorem dX5_noPole_2 : decode cX5_noPole 2 = .ok (.aload_n 0, 1) := by decide +kernel
theorem dX5_noPole_3 : decode cX5_noPole 3 = .ok (.getfield 10, 3) := by decide +kernel
theorem dX5_noPole_6 : decode cX5_noPole 6 = .ok (.getfield 45, 3) := by decide +kernel
theorem dX5_noPole_9 : decode cX5_noPole 9 = .ok (.getfield 49, 3) := by decide +kernel
theorem dX5_noPole_12 : decode cX5_noPole 12 = .ok (.iconst 1, 1) := by decide +kernel
theorem dX5_noPole_13 : decode cX5_noPole 13 = .ok (.isub, 1) := by decide +kernel
theorem dX5_noPole_14 : decode cX5_noPole 14 = .ok (.invokestatic 19, 3) := by decide +kernel
theorem dX5_noPole_17 : decode cX5_noPole 17 = .ok (.ireturn, 1) := by decide +kernel
set_option maxRecDepth 20000 in
theorem ggX5_noSpan_X4_spans : GoodIn wsX5_noSpan wsX4_spans := goodIn_r _ [7, 8, 21, 22, 23, 24, 25, 26, 27, 28, 29] (by decide +kernel) (by decide +kernel)
set_option maxRecDepth 20000 in
theorem gX5_noSpan_X4_spans : GoodIn wsX5_noSpan (wsV RX5 208 RX4 yX4_spans wsX4_spans) := goodIn_app (goodIn_of _ (by decide +kernel)) ggX5_noSpan_X4_spans
set_option maxRecDepth 20000 in
theorem ggX5_noSpan_X5_outside : GoodIn wsX5_noSpan wsX5_outside := goodIn_r _ [12] (by decide +kernel) (by decide +kernel)
set_option maxRecDepth 20000 in
theorem gX5_noSpan_X5_outside : GoodIn wsX5_noSpan (va_wsS RX5 19 yX5_outside wsX5_outside) := goodIn_app (goodIn_of _ (by decide +kernel)) ggX5_noSpan_X5_outside
theorem dX5_noSpan_0 : decode cX5_noSpan 0 = .ok (.iload_n 1, 1) := by decide +kernel
theorem dX5_noSpan_1 : decode cX5_noSpan 1 = .ok (.iconst 0, 1) := by decide +kernel
theorem dX5_noSpan_2 : decode cX5_noSpan 2 = .ok (.aload_n 0, 1) := by decide +kernel
theorem dX5_noSpan_3 : decode cX5_noSpan 3 = .ok (.getfield 10, 3) := by decide +kernel
theorem dX5_noSpan_6 : decode cX5_noSpan 6 = .ok (.getfield 45, 3) := by decide +kernel
theorem dX5_noSpan_9 : decode cX5_noSpan 9 = .ok (.invokevirtual 208, 3) := by decide +kernel
theorem dX5_noSpan_12 : decode cX5_noSpan 12 = .ok (.iconst 1, 1) := by decide +kernel
theorem dX5_noSpan_13 : decode cX5_noSpan 13 = .ok (.isub, 1) := by decide +kernel
theorem dX5_noSpan_14 : decode cX5_noSpan 14 = .ok (.invokestatic 19, 3) := by decide +kernel
theorem dX5_noSpan_17 : decode cX5_noSpan 17 = .ok (.ireturn, 1) := by decide +kernel
set_option maxRecDepth 20000 in
theorem ggX5_noSection_X5_outside : GoodIn wsX5_noSection wsX5_outside := goodIn_r _ [7] (by decide +kernel) (by decide +kernel)
set_option maxRecDepth 20000 in
theorem gX5_noSection_X5_outside : GoodIn wsX5_noSection (va_wsS RX5 19 yX5_outside wsX5_outside) := goodIn_app (goodIn_of _ (by decide +kernel)) ggX5_noSection_X5_outside
theorem dX5_noSection_0 : decode cX5_noSection 0 = .ok (.iload_n 1, 1) := by decide +kernel
theorem dX5_noSection_1 : decode cX5_noSection 1 = .ok (.iconst 0, 1) := by decide +kernel
theorem dX5_noSection_2 : decode cX5_noSection 2 = .ok (.aload_n 0, 1) := by decide +kernel
theorem dX5_noSection_3 : decode cX5_noSection 3 = .ok (.getfield 10, 3) := by decide +kernel
theorem dX5_noSection_6 : decode cX5_noSection 6 = .ok (.getfield 45, 3) := by decide +kernel
theorem dX5_noSection_9 : decode cX5_noSection 9 = .ok (.getfield 105, 3) := by decide +kernel
theorem dX5_noSection_12 : decode cX5_noSection 12 = .ok (.iconst 1, 1) := by decide +kernel
theorem dX5_noSection_13 : decode cX5_noSection 13 = .ok (.isub, 1) := by decide +kernel
theorem dX5_noSection_14 : decode cX5_noSection 14 = .ok (.invokestatic 19, 3) := by decide +kernel
theorem dX5_noSection_17 : decode cX5_noSection 17 = .ok (.ireturn, 1) := by decide +kernel
