set_option maxRecDepth 20000 in
theorem ggX3_init_X0_init : GoodIn wsX3_init wsX0_init := goodIn_r _ [16, 17, 2, 3] (by decide +kernel) (by decide +kernel)
set_option maxRecDepth 20000 in
theorem gX3_init_X0_init_n21 : GoodIn wsX3_init (wsX0_init) := ggX3_init_X0_init
theorem dX3_init_0 : decode cX3_init 0 = .ok (.aload_n 0, 1) := by decide +kernel
theorem dX3_init_1 : decode cX3_init 1 = .ok (.invokespecial 1, 3) := by decide +kernel
theorem dX3_init_4 : decode cX3_init 4 = .ok (.aload_n 0, 1) := by decide +kernel
theorem dX3_init_5 : decode cX3_init 5 = .ok (.bipush 10, 2) := by decide +kernel
theorem dX3_init_7 : decode cX3_init 7 = .ok (.anewarray 9, 3) := by decide +kernel
theorem dX3_init_10 : decode cX3_init 10 = .ok (.putfield 11, 3) := by decide +kernel
theorem dX3_init_13 : decode cX3_init 13 = .ok (.aload_n 0, 1) := by decide +kernel
theorem dX3_init_14 : decode cX3_init 14 = .ok (.bipush 6, 2) := by decide +kernel
theorem dX3_init_16 : decode cX3_init 16 = .ok (.newarray .int, 2) := by decide +kernel
theorem dX3_init_18 : decode cX3_init 18 = .ok (.putfield 15, 3) := by decide +kernel
theorem dX3_init_21 : decode cX3_init 21 = .ok (.aload_n 0, 1) := by decide +kernel
theorem dX3_init_22 : decode cX3_init 22 = .ok (.new 19, 3) := by decide +kernel
theorem dX3_init_25 : decode cX3_init 25 = .ok (.dup, 1) := by decide +kernel
theorem dX3_init_26 : decode cX3_init 26 = .ok (.invokespecial 21, 3) := by decide +kernel
theorem dX3_init_29 : decode cX3_init 29 = .ok (.putfield 22, 3) := by decide +kernel
theorem dX3_init_32 : decode cX3_init 32 = .ok (.aload_n 0, 1) := by decide +kernel
theorem dX3_init_33 : decode cX3_init 33 = .ok (.iconst 0, 1) := by decide +kernel
theorem dX3_init_34 : decode cX3_init 34 = .ok (.putfield 26, 3) := by decide +kernel
theorem dX3_init_37 : decode cX3_init 37 = .ok (.aload_n 0, 1) := by decide +kernel
theorem dX3_init_38 : decode cX3_init 38 = .ok (.iconst 0, 1) := by decide +kernel
theorem dX3_init_39 : decode cX3_init 39 = .ok (.putfield 30, 3) := by decide +kernel
theorem dX3_init_42 : decode cX3_init 42 = .ok (.aload_n 0, 1) := by decide +kernel
theorem dX3_init_43 : decode cX3_init 43 = .ok (.lconst 0, 1) := by decide +kernel
theorem dX3_init_44 : decode cX3_init 44 = .ok (.putfield 33, 3) := by decide +kernel
theorem dX3_init_47 : decode cX3_init 47 = .ok (.return_, 1) := by decide +kernel
set_option maxRecDepth 20000 in
theorem ggX3_make_X3_isBox : GoodIn wsX3_make wsX3_isBox := goodIn_r _ [9] (by decide +kernel) (by decide +kernel)
set_option maxRecDepth 20000 in
theorem gX3_make_X3_isBox : GoodIn wsX3_make (va_wsS RX3 37 yX3_isBox wsX3_isBox) := goodIn_app (goodIn_of _ (by decide +kernel)) ggX3_make_X3_isBox
set_option maxRecDepth 20000 in
theorem ggX3_make_X3_isKind : GoodIn wsX3_make wsX3_isKind := goodIn_r _ [12] (by decide +kernel) (by decide +kernel)
set_option maxRecDepth 20000 in
theorem gX3_make_X3_isKind : GoodIn wsX3_make (va_wsS RX3 41 yX3_isKind wsX3_isKind) := goodIn_app (goodIn_of _ (by decide +kernel)) ggX3_make_X3_isKind
set_option maxRecDepth 20000 in
theorem ggX3_make_X3_met : GoodIn wsX3_make wsX3_met := goodIn_r _ [16, 17, 31, 32, 33, 34, 35, 36] (by decide +kernel) (by decide +kernel)
set_option maxRecDepth 20000 in
theorem gX3_make_X3_met : GoodIn wsX3_make (wsV RX3 44 RX3 yX3_met wsX3_met) := goodIn_app (goodIn_of _ (by decide +kernel)) ggX3_make_X3_met
set_option maxRecDepth 20000 in
theorem ggX3_make_X2_init : GoodIn wsX3_make wsX2_init := goodIn_r _ [20, 21, 22, 23, 24, 25, 26, 27, 28, 29, 30, 37, 38, 39, 40, 41] (by decide +kernel) (by decide +kernel)
set_option maxRecDepth 20000 in
theorem gX3_make_X2_init : GoodIn wsX3_make (wsX2_init) := ggX3_make_X2_init
theorem dX3_make_0 : decode cX3_make 0 = .ok (.iload_n 1, 1) := by decide +kernel
theorem dX3_make_1 : decode cX3_make 1 = .ok (.invokestatic 37, 3) := by decide +kernel
theorem dX3_make_4 : decode cX3_make 4 = .ok (.ifCond .eq 20, 3) := by decide +kernel
theorem dX3_make_7 : decode cX3_make 7 = .ok (.iload_n 2, 1) := by decide +kernel
theorem dX3_make_8 : decode cX3_make 8 = .ok (.invokestatic 41, 3) := by decide +kernel
theorem dX3_make_11 : decode cX3_make 11 = .ok (.ifCond .eq 13, 3) := by decide +kernel
theorem dX3_make_14 : decode cX3_make 14 = .ok (.iload_n 3, 1) := by decide +kernel
theorem dX3_make_15 : decode cX3_make 15 = .ok (.iconst 1, 1) := by decide +kernel
theorem dX3_make_16 : decode cX3_make 16 = .ok (.if_icmp .lt 8, 3) := by decide +kernel
theorem dX3_make_19 : decode cX3_make 19 = .ok (.iload_n 3, 1) := by decide +kernel
theorem dX3_make_20 : decode cX3_make 20 = .ok (.iconst 3, 1) := by decide +kernel
theorem dX3_make_21 : decode cX3_make 21 = .ok (.if_icmp .le 5, 3) := by decide +kernel
theorem dX3_make_24 : decode cX3_make 24 = .ok (.iconst (-1), 1) := by decide +kernel
theorem dX3_make_25 : decode cX3_make 25 = .ok (.ireturn, 1) := by decide +kernel
theorem dX3_make_26 : decode cX3_make 26 = .ok (.aload_n 0, 1) := by decide +kernel
theorem dX3_make_27 : decode cX3_make 27 = .ok (.getfield 26, 3) := by decide +kernel
theorem dX3_make_30 : decode cX3_make 30 = .ok (.bipush 120, 2) := by decide +kernel
theorem dX3_make_32 : decode cX3_make 32 = .ok (.if_icmp .ge 10, 3) := by decide +kernel
theorem dX3_make_35 : decode cX3_make 35 = .ok (.iload 4, 2) := by decide +kernel
theorem dX3_make_37 : decode cX3_make 37 = .ok (.bipush 8, 2) := by decide +kernel
theorem dX3_make_39 : decode cX3_make 39 = .ok (.if_icmp .le 6, 3) := by decide +kernel
theorem dX3_make_42 : decode cX3_make 42 = .ok (.bipush (-2), 2) := by decide +kernel
theorem dX3_make_44 : decode cX3_make 44 = .ok (.ireturn, 1) := by decide +kernel
theorem dX3_make_45 : decode cX3_make 45 = .ok (.iload 4, 2) := by decide +kernel
theorem dX3_make_47 : decode cX3_make 47 = .ok (.ifCond .ge 9, 3) := by decide +kernel
theorem dX3_make_50 : decode cX3_make 50 = .ok (.aload_n 0, 1) := by decide +kernel
theorem dX3_make_51 : decode cX3_make 51 = .ok (.iconst 5, 1) := by decide +kernel
theorem dX3_make_52 : decode cX3_make 52 = .ok (.invokevirtual 44, 3) := by decide +kernel
theorem dX3_make_55 : decode cX3_make 55 = .ok (.ireturn, 1) := by decide +kernel
theorem dX3_make_56 : decode cX3_make 56 = .ok (.aload_n 0, 1) := by decide +kernel
theorem dX3_make_57 : decode cX3_make 57 = .ok (.getfield 11, 3) := by decide +kernel
theorem dX3_make_60 : decode cX3_make 60 = .ok (.iload_n 1, 1) := by decide +kernel
theorem dX3_make_61 : decode cX3_make 61 = .ok (.new 9, 3) := by decide +kernel
theorem dX3_make_64 : decode cX3_make 64 = .ok (.dup, 1) := by decide +kernel
theorem dX3_make_65 : decode cX3_make 65 = .ok (.iload_n 2, 1) := by decide +kernel
theorem dX3_make_66 : decode cX3_make 66 = .ok (.iload_n 3, 1) := by decide +kernel
theorem dX3_make_67 : decode cX3_make 67 = .ok (.iload 4, 2) := by decide +kernel
theorem dX3_make_69 : decode cX3_make 69 = .ok (.invokespecial 48, 3) := by decide +kernel
theorem dX3_make_72 : decode cX3_make 72 = .ok (.aastore, 1) := by decide +kernel
theorem dX3_make_73 : decode cX3_make 73 = .ok (.aload_n 0, 1) := by decide +kernel
theorem dX3_make_74 : decode cX3_make 74 = .ok (.dup, 1) := by decide +kernel
theorem dX3_make_75 : decode cX3_make 75 = .ok (.getfield 26, 3) := by decide +kernel
theorem dX3_make_78 : decode cX3_make 78 = .ok (.iconst 1, 1) := by decide +kernel
theorem dX3_make_79 : decode cX3_make 79 = .ok (.iadd, 1) := by decide +kernel
theorem dX3_make_80 : decode cX3_make 80 = .ok (.putfield 26, 3) := by decide +kernel
theorem dX3_make_83 : decode cX3_make 83 = .ok (.aload_n 0, 1) := by decide +kernel
theorem dX3_make_84 : decode cX3_make 84 = .ok (.getfield 26, 3) := by decide +kernel
theorem dX3_make_87 : decode cX3_make 87 = .ok (.iconst 1, 1) := by decide +kernel
theorem dX3_make_88 : decode cX3_make 88 = .ok (.isub, 1) := by decide +kernel
theorem dX3_make_89 : decode cX3_make 89 = .ok (.ireturn, 1) := by decide +kernel
set_option maxRecDepth 20000 in
theorem ggX3_take_X3_isBox : GoodIn wsX3_take wsX3_isBox := goodIn_r _ [5] (by decide +kernel) (by decide +kernel)
set_option maxRecDepth 20000 in
theorem gX3_take_X3_isBox : GoodIn wsX3_take (va_wsS RX3 37 yX3_isBox wsX3_isBox) := goodIn_app (goodIn_of _ (by decide +kernel)) ggX3_take_X3_isBox
theorem dX3_take_0 : decode cX3_take 0 = .ok (.iload_n 1, 1) := by decide +kernel
theorem dX3_take_1 : decode cX3_take 1 = .ok (.invokestatic 37, 3) := by decide +kernel
theorem dX3_take_4 : decode cX3_take 4 = .ok (.ifCond .eq 10, 3) := by decide +kernel
theorem dX3_take_7 : decode cX3_take 7 = .ok (.iload_n 2, 1) := by decide +kernel
theorem dX3_take_8 : decode cX3_take 8 = .ok (.invokestatic 37, 3) := by decide +kernel
theorem dX3_take_11 : decode cX3_take 11 = .ok (.ifCond .ne 5, 3) := by decide +kernel
theorem dX3_take_14 : decode cX3_take 14 = .ok (.iconst (-1), 1) := by decide +kernel
theorem dX3_take_15 : decode cX3_take 15 = .ok (.ireturn, 1) := by decide +kernel
theorem dX3_take_16 : decode cX3_take 16 = .ok (.aload_n 0, 1) := by decide +kernel
theorem dX3_take_17 : decode cX3_take 17 = .ok (.getfield 11, 3) := by decide +kernel
theorem dX3_take_20 : decode cX3_take 20 = .ok (.iload_n 1, 1) := by decide +kernel
theorem dX3_take_21 : decode cX3_take 21 = .ok (.aload_n 0, 1) := by decide +kernel
theorem dX3_take_22 : decode cX3_take 22 = .ok (.getfield 11, 3) := by decide +kernel
theorem dX3_take_25 : decode cX3_take 25 = .ok (.iload_n 2, 1) := by decide +kernel
theorem dX3_take_26 : decode cX3_take 26 = .ok (.aaload, 1) := by decide +kernel
theorem dX3_take_27 : decode cX3_take 27 = .ok (.aastore, 1) := by decide +kernel
theorem dX3_take_28 : decode cX3_take 28 = .ok (.aload_n 0, 1) := by decide +kernel
theorem dX3_take_29 : decode cX3_take 29 = .ok (.getfield 11, 3) := by decide +kernel
theorem dX3_take_32 : decode cX3_take 32 = .ok (.iload_n 1, 1) := by decide +kernel
theorem dX3_take_33 : decode cX3_take 33 = .ok (.aaload, 1) := by decide +kernel
theorem dX3_take_34 : decode cX3_take 34 = .ok (.ifnonnull 7, 3) := by decide +kernel
theorem dX3_take_37 : decode cX3_take 37 = .ok (.iconst 0, 1) := by decide +kernel
theorem dX3_take_38 : decode cX3_take 38 = .ok (.goto 4, 3) := by decide +kernel
theorem dX3_take_41 : decode cX3_take 41 = .ok (.iconst 1, 1) := by decide +kernel
theorem dX3_take_42 : decode cX3_take 42 = .ok (.ireturn, 1) := by decide +kernel
set_option maxRecDepth 20000 in
theorem ggX3_empty_X3_isBox : GoodIn wsX3_empty wsX3_isBox := goodIn_r _ [5] (by decide +kernel) (by decide +kernel)
set_option maxRecDepth 20000 in
theorem gX3_empty_X3_isBox : GoodIn wsX3_empty (va_wsS RX3 37 yX3_isBox wsX3_isBox) := goodIn_app (goodIn_of _ (by decide +kernel)) ggX3_empty_X3_isBox
theorem dX3_empty_0 : decode cX3_empty 0 = .ok (.iload_n 1, 1) := by decide +kernel
theorem dX3_empty_1 : decode cX3_empty 1 = .ok (.invokestatic 37, 3) := by decide +kernel
theorem dX3_empty_4 : decode cX3_empty 4 = .ok (.ifCond .ne 5, 3) := by decide +kernel
theorem dX3_empty_7 : decode cX3_empty 7 = .ok (.iconst (-1), 1) := by decide +kernel
theorem dX3_empty_8 : decode cX3_empty 8 = .ok (.ireturn, 1) := by decide +kernel
theorem dX3_empty_9 : decode cX3_empty 9 = .ok (.aload_n 0, 1) := by decide +kernel
theorem dX3_empty_10 : decode cX3_empty 10 = .ok (.getfield 11, 3) := by decide +kernel
theorem dX3_empty_13 : decode cX3_empty 13 = .ok (.iload_n 1, 1) := by decide +kernel
theorem dX3_empty_14 : decode cX3_empty 14 = .ok (.aaload, 1) := by decide +kernel
theorem dX3_empty_15 : decode cX3_empty 15 = .ok (.ifnonnull 7, 3) := by decide +kernel
theorem dX3_empty_18 : decode cX3_empty 18 = .ok (.iconst 0, 1) := by decide +kernel
theorem dX3_empty_19 : decode cX3_empty 19 = .ok (.goto 4, 3) := by decide +kernel
theorem dX3_empty_22 : decode cX3_empty 22 = .ok (.iconst 1, 1) := by decide +kernel
theorem dX3_empty_23 : decode cX3_empty 23 = .ok (.istore_n 2, 1) := by decide +kernel
theorem dX3_empty_24 : decode cX3_empty 24 = .ok (.aload_n 0, 1) := by decide +kernel
theorem dX3_empty_25 : decode cX3_empty 25 = .ok (.getfield 11, 3) := by decide +kernel
theorem dX3_empty_28 : decode cX3_empty 28 = .ok (.iload_n 1, 1) := by decide +kernel
theorem dX3_empty_29 : decode cX3_empty 29 = .ok (.aconst_null, 1) := by decide +kernel
theorem dX3_empty_30 : decode cX3_empty 30 = .ok (.aastore, 1) := by decide +kernel
theorem dX3_empty_31 : decode cX3_empty 31 = .ok (.iload_n 2, 1) := by decide +kernel
theorem dX3_empty_32 : decode cX3_empty 32 = .ok (.ireturn, 1) := by decide +kernel
set_option maxRecDepth 20000 in
theorem ggX3_same_X3_isBox : GoodIn wsX3_same wsX3_isBox := goodIn_r _ [5] (by decide +kernel) (by decide +kernel)
set_option maxRecDepth 20000 in
theorem gX3_same_X3_isBox : GoodIn wsX3_same (va_wsS RX3 37 yX3_isBox wsX3_isBox) := goodIn_app (goodIn_of _ (by decide +kernel)) ggX3_same_X3_isBox
theorem dX3_same_0 : decode cX3_same 0 = .ok (.iload_n 1, 1) := by decide +kernel
theorem dX3_same_1 : decode cX3_same 1 = .ok (.invokestatic 37, 3) := by decide +kernel
theorem dX3_same_4 : decode cX3_same 4 = .ok (.ifCond .eq 10, 3) := by decide +kernel
theorem dX3_same_7 : decode cX3_same 7 = .ok (.iload_n 2, 1) := by decide +kernel
theorem dX3_same_8 : decode cX3_same 8 = .ok (.invokestatic 37, 3) := by decide +kernel
theorem dX3_same_11 : decode cX3_same 11 = .ok (.ifCond .ne 5, 3) := by decide +kernel
theorem dX3_same_14 : decode cX3_same 14 = .ok (.iconst (-1), 1) := by decide +kernel
theorem dX3_same_15 : decode cX3_same 15 = .ok (.ireturn, 1) := by decide +kernel
theorem dX3_same_16 : decode cX3_same 16 = .ok (.aload_n 0, 1) := by decide +kernel
theorem dX3_same_17 : decode cX3_same 17 = .ok (.getfield 11, 3) := by decide +kernel
theorem dX3_same_20 : decode cX3_same 20 = .ok (.iload_n 1, 1) := by decide +kernel
theorem dX3_same_21 : decode cX3_same 21 = .ok (.aaload, 1) := by decide +kernel
theorem dX3_same_22 : decode cX3_same 22 = .ok (.aload_n 0, 1) := by decide +kernel
theorem dX3_same_23 : decode cX3_same 23 = .ok (.getfield 11, 3) := by decide +kernel
theorem dX3_same_26 : decode cX3_same 26 = .ok (.iload_n 2, 1) := by decide +kernel
theorem dX3_same_27 : decode cX3_same 27 = .ok (.aaload, 1) := by decide +kernel
theorem dX3_same_28 : decode cX3_same 28 = .ok (.if_acmp .ne 7, 3) := by decide +kernel
theorem dX3_same_31 : decode cX3_same 31 = .ok (.iconst 1, 1) := by decide +kernel
theorem dX3_same_32 : decode cX3_same 32 = .ok (.goto 4, 3) := by decide +kernel
theorem dX3_same_35 : decode cX3_same 35 = .ok (.iconst 0, 1) := by decide +kernel
theorem dX3_same_36 : decode cX3_same 36 = .ok (.ireturn, 1) := by decide +kernel
set_option maxRecDepth 20000 in
theorem ggX3_look_X3_isBox : GoodIn wsX3_look wsX3_isBox := goodIn_r _ [12] (by decide +kernel) (by decide +kernel)
set_option maxRecDepth 20000 in
theorem gX3_look_X3_isBox : GoodIn wsX3_look (va_wsS RX3 37 yX3_isBox wsX3_isBox) := goodIn_app (goodIn_of _ (by decide +kernel)) ggX3_look_X3_isBox
set_option maxRecDepth 20000 in
theorem ggX3_look_X3_isSteps : GoodIn wsX3_look wsX3_isSteps := goodIn_r _ [15] (by decide +kernel) (by decide +kernel)
set_option maxRecDepth 20000 in
theorem gX3_look_X3_isSteps : GoodIn wsX3_look (va_wsS RX3 51 yX3_isSteps wsX3_isSteps) := goodIn_app (goodIn_of _ (by decide +kernel)) ggX3_look_X3_isSteps
set_option maxRecDepth 20000 in
theorem ggX3_look_X3_walk : GoodIn wsX3_look wsX3_walk := goodIn_r _ [19, 1, 20, 21, 22, 23, 24, 25, 26, 27, 28, 29, 30, 31, 11, 32, 33, 34, 35, 36, 37, 38, 39, 40, 41, 42, 43, 44, 45, 46, 47, 48, 49, 50, 51, 52, 53, 54, 55, 56, 62, 63, 64, 65, 66, 67, 68, 69, 70, 71, 72, 73, 74, 75, 76, 77] (by decide +kernel) (by decide +kernel)
set_option maxRecDepth 20000 in
theorem gX3_look_X3_walk : GoodIn wsX3_look (wsV RX3 55 RX3 yX3_walk wsX3_walk) := goodIn_app (goodIn_of _ (by decide +kernel)) ggX3_look_X3_walk
set_option maxRecDepth 20000 in
theorem ggX3_look_X3_met : GoodIn wsX3_look wsX3_met := goodIn_r _ [60, 61, 62, 63, 64, 65, 66, 67] (by decide +kernel) (by decide +kernel)
set_option maxRecDepth 20000 in
theorem gX3_look_X3_met : GoodIn wsX3_look (wsV RX3 44 RX3 yX3_met wsX3_met) := goodIn_app (goodIn_of _ (by decide +kernel)) ggX3_look_X3_met
theorem dX3_look_0 : decode cX3_look 0 = .ok (.iload_n 1, 1) := by decide +kernel
theorem dX3_look_1 : decode cX3_look 1 = .ok (.invokestatic 37, 3) := by decide +kernel
theorem dX3_look_4 : decode cX3_look 4 = .ok (.ifCond .eq 12, 3) := by decide +kernel
theorem dX3_look_7 : decode cX3_look 7 = .ok (.iload_n 2, 1) := by decide +kernel
theorem dX3_look_8 : decode cX3_look 8 = .ok (.iconst 0, 1) := by decide +kernel
theorem dX3_look_9 : decode cX3_look 9 = .ok (.iconst 3, 1) := by decide +kernel
theorem dX3_look_10 : decode cX3_look 10 = .ok (.invokestatic 51, 3) := by decide +kernel
theorem dX3_look_13 : decode cX3_look 13 = .ok (.ifCond .ne 5, 3) := by decide +kernel
theorem dX3_look_16 : decode cX3_look 16 = .ok (.iconst (-1), 1) := by decide +kernel
theorem dX3_look_17 : decode cX3_look 17 = .ok (.ireturn, 1) := by decide +kernel
theorem dX3_look_18 : decode cX3_look 18 = .ok (.aload_n 0, 1) := by decide +kernel
theorem dX3_look_19 : decode cX3_look 19 = .ok (.iload_n 1, 1) := by decide +kernel
theorem dX3_look_20 : decode cX3_look 20 = .ok (.iload_n 2, 1) := by decide +kernel
theorem dX3_look_21 : decode cX3_look 21 = .ok (.iload_n 3, 1) := by decide +kernel
theorem dX3_look_22 : decode cX3_look 22 = .ok (.iload 4, 2) := by decide +kernel
theorem dX3_look_24 : decode cX3_look 24 = .ok (.iload 5, 2) := by decide +kernel
theorem dX3_look_26 : decode cX3_look 26 = .ok (.invokevirtual 55, 3) := by decide +kernel
theorem dX3_look_29 : decode cX3_look 29 = .ok (.istore 6, 2) := by decide +kernel
theorem dX3_look_31 : decode cX3_look 31 = .ok (.iload 6, 2) := by decide +kernel
theorem dX3_look_33 : decode cX3_look 33 = .ok (.ifCond .eq 10, 3) := by decide +kernel
theorem dX3_look_36 : decode cX3_look 36 = .ok (.aload_n 0, 1) := by decide +kernel
theorem dX3_look_37 : decode cX3_look 37 = .ok (.iload 6, 2) := by decide +kernel
theorem dX3_look_39 : decode cX3_look 39 = .ok (.invokevirtual 44, 3) := by decide +kernel
theorem dX3_look_42 : decode cX3_look 42 = .ok (.ireturn, 1) := by decide +kernel
theorem dX3_look_43 : decode cX3_look 43 = .ok (.aload_n 0, 1) := by decide +kernel
theorem dX3_look_44 : decode cX3_look 44 = .ok (.getfield 22, 3) := by decide +kernel
theorem dX3_look_47 : decode cX3_look 47 = .ok (.getfield 59, 3) := by decide +kernel
theorem dX3_look_50 : decode cX3_look 50 = .ok (.ifCond .eq 22, 3) := by decide +kernel
theorem dX3_look_53 : decode cX3_look 53 = .ok (.aload_n 0, 1) := by decide +kernel
theorem dX3_look_54 : decode cX3_look 54 = .ok (.aload_n 0, 1) := by decide +kernel
theorem dX3_look_55 : decode cX3_look 55 = .ok (.getfield 22, 3) := by decide +kernel
theorem dX3_look_58 : decode cX3_look 58 = .ok (.getfield 63, 3) := by decide +kernel
theorem dX3_look_61 : decode cX3_look 61 = .ok (.putfield 33, 3) := by decide +kernel
theorem dX3_look_64 : decode cX3_look 64 = .ok (.aload_n 0, 1) := by decide +kernel
theorem dX3_look_65 : decode cX3_look 65 = .ok (.getfield 22, 3) := by decide +kernel
theorem dX3_look_68 : decode cX3_look 68 = .ok (.getfield 66, 3) := by decide +kernel
theorem dX3_look_71 : decode cX3_look 71 = .ok (.ireturn, 1) := by decide +kernel
theorem dX3_look_72 : decode cX3_look 72 = .ok (.aload_n 0, 1) := by decide +kernel
theorem dX3_look_73 : decode cX3_look 73 = .ok (.getfield 22, 3) := by decide +kernel
theorem dX3_look_76 : decode cX3_look 76 = .ok (.getfield 69, 3) := by decide +kernel
theorem dX3_look_79 : decode cX3_look 79 = .ok (.astore 7, 2) := by decide +kernel
theorem dX3_look_81 : decode cX3_look 81 = .ok (.aload 7, 2) := by decide +kernel
theorem dX3_look_83 : decode cX3_look 83 = .ok (.ifnonnull 8, 3) := by decide +kernel
theorem dX3_look_86 : decode cX3_look 86 = .ok (.bipush 40, 2) := by decide +kernel
theorem dX3_look_88 : decode cX3_look 88 = .ok (.goto 17, 3) := by decide +kernel
theorem dX3_look_91 : decode cX3_look 91 = .ok (.aload 7, 2) := by decide +kernel
theorem dX3_look_93 : decode cX3_look 93 = .ok (.getfield 73, 3) := by decide +kernel
theorem dX3_look_96 : decode cX3_look 96 = .ok (.bipush 10, 2) := by decide +kernel
theorem dX3_look_98 : decode cX3_look 98 = .ok (.aload 7, 2) := by decide +kernel
theorem dX3_look_100 : decode cX3_look 100 = .ok (.getfield 74, 3) := by decide +kernel
theorem dX3_look_103 : decode cX3_look 103 = .ok (.imul, 1) := by decide +kernel
theorem dX3_look_104 : decode cX3_look 104 = .ok (.iadd, 1) := by decide +kernel
theorem dX3_look_105 : decode cX3_look 105 = .ok (.ireturn, 1) := by decide +kernel
set_option maxRecDepth 20000 in
theorem ggX3_length_X3_isBox : GoodIn wsX3_length wsX3_isBox := goodIn_r _ [7] (by decide +kernel) (by decide +kernel)
set_option maxRecDepth 20000 in
theorem gX3_length_X3_isBox : GoodIn wsX3_length (va_wsS RX3 37 yX3_isBox wsX3_isBox) := goodIn_app (goodIn_of _ (by decide +kernel)) ggX3_length_X3_isBox
set_option maxRecDepth 20000 in
theorem ggX3_length_X3_isSteps : GoodIn wsX3_length wsX3_isSteps := goodIn_r _ [10] (by decide +kernel) (by decide +kernel)
set_option maxRecDepth 20000 in
theorem gX3_length_X3_isSteps : GoodIn wsX3_length (va_wsS RX3 51 yX3_isSteps wsX3_isSteps) := goodIn_app (goodIn_of _ (by decide +kernel)) ggX3_length_X3_isSteps
set_option maxRecDepth 20000 in
theorem ggX3_length_X3_rowThere : GoodIn wsX3_length wsX3_rowThere := goodIn_r _ [14, 1, 2, 15, 16, 17, 18, 6, 19, 20, 21, 22, 23, 24, 25, 26, 27, 28, 29, 30, 31, 32, 33, 34, 35, 36, 37, 38, 39, 40, 41, 42, 43, 44, 45, 46, 47, 48, 49, 50, 51, 52, 53, 54, 55, 56, 62, 63, 64, 65, 66, 67, 68, 69, 70, 71, 72, 73, 74, 75, 76, 77] (by decide +kernel) (by decide +kernel)
set_option maxRecDepth 20000 in
theorem gX3_length_X3_rowThere : GoodIn wsX3_length (wsV RX3 77 RX3 yX3_rowThere wsX3_rowThere) := goodIn_app (goodIn_of _ (by decide +kernel)) ggX3_length_X3_rowThere
set_option maxRecDepth 20000 in
theorem ggX3_length_X3_met : GoodIn wsX3_length wsX3_met := goodIn_r _ [60, 61, 62, 63, 64, 65, 66, 67] (by decide +kernel) (by decide +kernel)
set_option maxRecDepth 20000 in
theorem gX3_length_X3_met : GoodIn wsX3_length (wsV RX3 44 RX3 yX3_met wsX3_met) := goodIn_app (goodIn_of _ (by decide +kernel)) ggX3_length_X3_met
theorem dX3_length_0 : decode cX3_length 0 = .ok (.iload_n 1, 1) := by decide +kernel
theorem dX3_length_1 : decode cX3_length 1 = .ok (.invokestatic 37, 3) := by decide +kernel
theorem dX3_length_4 : decode cX3_length 4 = .ok (.ifCond .eq 12, 3) := by decide +kernel
theorem dX3_length_7 : decode cX3_length 7 = .ok (.iload_n 2, 1) := by decide +kernel
theorem dX3_length_8 : decode cX3_length 8 = .ok (.iconst 0, 1) := by decide +kernel
theorem dX3_length_9 : decode cX3_length 9 = .ok (.iconst 3, 1) := by decide +kernel
theorem dX3_length_10 : decode cX3_length 10 = .ok (.invokestatic 51, 3) := by decide +kernel
theorem dX3_length_13 : decode cX3_length 13 = .ok (.ifCond .ne 5, 3) := by decide +kernel
theorem dX3_length_16 : decode cX3_length 16 = .ok (.iconst (-1), 1) := by decide +kernel
theorem dX3_length_17 : decode cX3_length 17 = .ok (.ireturn, 1) := by decide +kernel
theorem dX3_length_18 : decode cX3_length 18 = .ok (.aload_n 0, 1) := by decide +kernel
theorem dX3_length_19 : decode cX3_length 19 = .ok (.iload_n 1, 1) := by decide +kernel
theorem dX3_length_20 : decode cX3_length 20 = .ok (.iload_n 2, 1) := by decide +kernel
theorem dX3_length_21 : decode cX3_length 21 = .ok (.iload_n 3, 1) := by decide +kernel
theorem dX3_length_22 : decode cX3_length 22 = .ok (.iload 4, 2) := by decide +kernel
theorem dX3_length_24 : decode cX3_length 24 = .ok (.iload 5, 2) := by decide +kernel
theorem dX3_length_26 : decode cX3_length 26 = .ok (.invokevirtual 77, 3) := by decide +kernel
theorem dX3_length_29 : decode cX3_length 29 = .ok (.astore 6, 2) := by decide +kernel
theorem dX3_length_31 : decode cX3_length 31 = .ok (.aload 6, 2) := by decide +kernel
theorem dX3_length_33 : decode cX3_length 33 = .ok (.ifnonnull 17, 3) := by decide +kernel
theorem dX3_length_36 : decode cX3_length 36 = .ok (.aload_n 0, 1) := by decide +kernel
theorem dX3_length_37 : decode cX3_length 37 = .ok (.aload_n 0, 1) := by decide +kernel
theorem dX3_length_38 : decode cX3_length 38 = .ok (.getfield 22, 3) := by decide +kernel
theorem dX3_length_41 : decode cX3_length 41 = .ok (.getfield 81, 3) := by decide +kernel
theorem dX3_length_44 : decode cX3_length 44 = .ok (.invokevirtual 44, 3) := by decide +kernel
theorem dX3_length_47 : decode cX3_length 47 = .ok (.goto 8, 3) := by decide +kernel
theorem dX3_length_50 : decode cX3_length 50 = .ok (.aload 6, 2) := by decide +kernel
theorem dX3_length_52 : decode cX3_length 52 = .ok (.getfield 84, 3) := by decide +kernel
theorem dX3_length_55 : decode cX3_length 55 = .ok (.ireturn, 1) := by decide +kernel
set_option maxRecDepth 20000 in
theorem ggX3_read_X3_isBox : GoodIn wsX3_read wsX3_isBox := goodIn_r _ [9] (by decide +kernel) (by decide +kernel)
set_option maxRecDepth 20000 in
theorem gX3_read_X3_isBox : GoodIn wsX3_read (va_wsS RX3 37 yX3_isBox wsX3_isBox) := goodIn_app (goodIn_of _ (by decide +kernel)) ggX3_read_X3_isBox
set_option maxRecDepth 20000 in
theorem ggX3_read_X3_isSteps : GoodIn wsX3_read wsX3_isSteps := goodIn_r _ [12] (by decide +kernel) (by decide +kernel)
set_option maxRecDepth 20000 in
theorem gX3_read_X3_isSteps : GoodIn wsX3_read (va_wsS RX3 51 yX3_isSteps wsX3_isSteps) := goodIn_app (goodIn_of _ (by decide +kernel)) ggX3_read_X3_isSteps
set_option maxRecDepth 20000 in
theorem ggX3_read_X3_isKind : GoodIn wsX3_read wsX3_isKind := goodIn_r _ [15] (by decide +kernel) (by decide +kernel)
set_option maxRecDepth 20000 in
theorem gX3_read_X3_isKind : GoodIn wsX3_read (va_wsS RX3 41 yX3_isKind wsX3_isKind) := goodIn_app (goodIn_of _ (by decide +kernel)) ggX3_read_X3_isKind
set_option maxRecDepth 20000 in
theorem ggX3_read_X3_rowThere : GoodIn wsX3_read wsX3_rowThere := goodIn_r _ [19, 1, 2, 20, 21, 22, 23, 8, 24, 25, 26, 27, 28, 29, 30, 31, 32, 33, 34, 35, 36, 37, 38, 39, 40, 41, 42, 43, 44, 45, 46, 47, 48, 49, 50, 51, 52, 53, 54, 55, 56, 57, 58, 59, 60, 61, 124, 125, 126, 127, 128, 129, 130, 131, 132, 133, 134, 135, 136, 137, 138, 139] (by decide +kernel) (by decide +kernel)
set_option maxRecDepth 20000 in
theorem gX3_read_X3_rowThere : GoodIn wsX3_read (wsV RX3 77 RX3 yX3_rowThere wsX3_rowThere) := goodIn_app (goodIn_of _ (by decide +kernel)) ggX3_read_X3_rowThere
set_option maxRecDepth 20000 in
theorem ggX3_read_X3_met : GoodIn wsX3_read wsX3_met := goodIn_r _ [65, 66, 124, 125, 126, 127, 128, 129] (by decide +kernel) (by decide +kernel)
set_option maxRecDepth 20000 in
theorem gX3_read_X3_met : GoodIn wsX3_read (wsV RX3 44 RX3 yX3_met wsX3_met) := goodIn_app (goodIn_of _ (by decide +kernel)) ggX3_read_X3_met
set_option maxRecDepth 20000 in
theorem ggX3_read_X3_placeOfStep : GoodIn wsX3_read wsX3_placeOfStep := goodIn_r _ [36] (by decide +kernel) (by decide +kernel)
set_option maxRecDepth 20000 in
theorem gX3_read_X3_placeOfStep : GoodIn wsX3_read (va_wsS RX3 87 yX3_placeOfStep wsX3_placeOfStep) := goodIn_app (goodIn_of _ (by decide +kernel)) ggX3_read_X3_placeOfStep
set_option maxRecDepth 20000 in
theorem ggX3_read_X2_causeToRead : GoodIn wsX3_read wsX2_causeToRead := goodIn_r _ [70, 71, 72, 73, 74, 53, 75, 76, 57, 58, 59, 60, 77, 51, 52, 54, 55, 78, 79, 80, 81, 135, 136, 137, 138, 139] (by decide +kernel) (by decide +kernel)
set_option maxRecDepth 20000 in
theorem gX3_read_X2_causeToRead : GoodIn wsX3_read (wsV RX3 91 RX2 yX2_causeToRead wsX2_causeToRead) := goodIn_app (goodIn_of _ (by decide +kernel)) ggX3_read_X2_causeToRead
set_option maxRecDepth 20000 in
theorem ggX3_read_X1_asKind : GoodIn wsX3_read wsX1_asKind := goodIn_r _ [84, 85, 86, 80, 87, 88, 89, 90, 91, 92, 93, 94, 95, 96, 97, 98, 99, 100, 101, 102, 103, 104, 105, 106, 107, 108, 109, 110, 111, 112, 113, 114, 115, 116, 117, 118, 119, 120, 121, 122, 123] (by decide +kernel) (by decide +kernel)
set_option maxRecDepth 20000 in
theorem gX3_read_X1_asKind : GoodIn wsX3_read (va_wsS RX3 99 yX1_asKind wsX1_asKind) := goodIn_app (goodIn_of _ (by decide +kernel)) ggX3_read_X1_asKind
theorem dX3_read_0 : decode cX3_read 0 = .ok (.iload_n 1, 1) := by decide +kernel
theorem dX3_read_1 : decode cX3_read 1 = .ok (.invokestatic 37, 3) := by decide +kernel
theorem dX3_read_4 : decode cX3_read 4 = .ok (.ifCond .eq 20, 3) := by decide +kernel
theorem dX3_read_7 : decode cX3_read 7 = .ok (.iload_n 2, 1) := by decide +kernel
theorem dX3_read_8 : decode cX3_read 8 = .ok (.iconst 1, 1) := by decide +kernel
theorem dX3_read_9 : decode cX3_read 9 = .ok (.iconst 3, 1) := by decide +kernel
theorem dX3_read_10 : decode cX3_read 10 = .ok (.invokestatic 51, 3) := by decide +kernel
theorem dX3_read_13 : decode cX3_read 13 = .ok (.ifCond .eq 11, 3) := by decide +kernel
theorem dX3_read_16 : decode cX3_read 16 = .ok (.iload 6, 2) := by decide +kernel
theorem dX3_read_18 : decode cX3_read 18 = .ok (.invokestatic 41, 3) := by decide +kernel
theorem dX3_read_21 : decode cX3_read 21 = .ok (.ifCond .ne 5, 3) := by decide +kernel
theorem dX3_read_24 : decode cX3_read 24 = .ok (.iconst (-1), 1) := by decide +kernel
theorem dX3_read_25 : decode cX3_read 25 = .ok (.ireturn, 1) := by decide +kernel
theorem dX3_read_26 : decode cX3_read 26 = .ok (.aload_n 0, 1) := by decide +kernel
theorem dX3_read_27 : decode cX3_read 27 = .ok (.iload_n 1, 1) := by decide +kernel
theorem dX3_read_28 : decode cX3_read 28 = .ok (.iload_n 2, 1) := by decide +kernel
theorem dX3_read_29 : decode cX3_read 29 = .ok (.iconst 1, 1) := by decide +kernel
theorem dX3_read_30 : decode cX3_read 30 = .ok (.isub, 1) := by decide +kernel
theorem dX3_read_31 : decode cX3_read 31 = .ok (.iload_n 3, 1) := by decide +kernel
theorem dX3_read_32 : decode cX3_read 32 = .ok (.iload 4, 2) := by decide +kernel
theorem dX3_read_34 : decode cX3_read 34 = .ok (.iload 5, 2) := by decide +kernel
theorem dX3_read_36 : decode cX3_read 36 = .ok (.invokevirtual 77, 3) := by decide +kernel
theorem dX3_read_39 : decode cX3_read 39 = .ok (.astore 7, 2) := by decide +kernel
theorem dX3_read_41 : decode cX3_read 41 = .ok (.aload 7, 2) := by decide +kernel
theorem dX3_read_43 : decode cX3_read 43 = .ok (.ifnonnull 15, 3) := by decide +kernel
theorem dX3_read_46 : decode cX3_read 46 = .ok (.aload_n 0, 1) := by decide +kernel
theorem dX3_read_47 : decode cX3_read 47 = .ok (.aload_n 0, 1) := by decide +kernel
theorem dX3_read_48 : decode cX3_read 48 = .ok (.getfield 22, 3) := by decide +kernel
theorem dX3_read_51 : decode cX3_read 51 = .ok (.getfield 81, 3) := by decide +kernel
theorem dX3_read_54 : decode cX3_read 54 = .ok (.invokevirtual 44, 3) := by decide +kernel
theorem dX3_read_57 : decode cX3_read 57 = .ok (.ireturn, 1) := by decide +kernel
theorem dX3_read_58 : decode cX3_read 58 = .ok (.iload_n 2, 1) := by decide +kernel
theorem dX3_read_59 : decode cX3_read 59 = .ok (.iload_n 3, 1) := by decide +kernel
theorem dX3_read_60 : decode cX3_read 60 = .ok (.iload 4, 2) := by decide +kernel
theorem dX3_read_62 : decode cX3_read 62 = .ok (.iload 5, 2) := by decide +kernel
theorem dX3_read_64 : decode cX3_read 64 = .ok (.invokestatic 87, 3) := by decide +kernel
theorem dX3_read_67 : decode cX3_read 67 = .ok (.istore 8, 2) := by decide +kernel
theorem dX3_read_69 : decode cX3_read 69 = .ok (.aload 7, 2) := by decide +kernel
theorem dX3_read_71 : decode cX3_read 71 = .ok (.iload 8, 2) := by decide +kernel
theorem dX3_read_73 : decode cX3_read 73 = .ok (.iload 6, 2) := by decide +kernel
theorem dX3_read_75 : decode cX3_read 75 = .ok (.invokevirtual 91, 3) := by decide +kernel
theorem dX3_read_78 : decode cX3_read 78 = .ok (.istore 9, 2) := by decide +kernel
theorem dX3_read_80 : decode cX3_read 80 = .ok (.iload 9, 2) := by decide +kernel
theorem dX3_read_82 : decode cX3_read 82 = .ok (.ifCond .eq 10, 3) := by decide +kernel
theorem dX3_read_85 : decode cX3_read 85 = .ok (.aload_n 0, 1) := by decide +kernel
theorem dX3_read_86 : decode cX3_read 86 = .ok (.iload 9, 2) := by decide +kernel
theorem dX3_read_88 : decode cX3_read 88 = .ok (.invokevirtual 44, 3) := by decide +kernel
theorem dX3_read_91 : decode cX3_read 91 = .ok (.ireturn, 1) := by decide +kernel
theorem dX3_read_92 : decode cX3_read 92 = .ok (.aload_n 0, 1) := by decide +kernel
theorem dX3_read_93 : decode cX3_read 93 = .ok (.aload 7, 2) := by decide +kernel
theorem dX3_read_95 : decode cX3_read 95 = .ok (.getfield 95, 3) := by decide +kernel
theorem dX3_read_98 : decode cX3_read 98 = .ok (.iload 8, 2) := by decide +kernel
theorem dX3_read_100 : decode cX3_read 100 = .ok (.laload, 1) := by decide +kernel
theorem dX3_read_101 : decode cX3_read 101 = .ok (.aload 7, 2) := by decide +kernel
theorem dX3_read_103 : decode cX3_read 103 = .ok (.getfield 73, 3) := by decide +kernel
theorem dX3_read_106 : decode cX3_read 106 = .ok (.iload 6, 2) := by decide +kernel
theorem dX3_read_108 : decode cX3_read 108 = .ok (.invokestatic 99, 3) := by decide +kernel
theorem dX3_read_111 : decode cX3_read 111 = .ok (.putfield 33, 3) := by decide +kernel
theorem dX3_read_114 : decode cX3_read 114 = .ok (.iconst 1, 1) := by decide +kernel
theorem dX3_read_115 : decode cX3_read 115 = .ok (.ireturn, 1) := by decide +kernel
set_option maxRecDepth 20000 in
theorem ggX3_write_X3_isBox : GoodIn wsX3_write wsX3_isBox := goodIn_r _ [8] (by decide +kernel) (by decide +kernel)
set_option maxRecDepth 20000 in
theorem gX3_write_X3_isBox : GoodIn wsX3_write (va_wsS RX3 37 yX3_isBox wsX3_isBox) := goodIn_app (goodIn_of _ (by decide +kernel)) ggX3_write_X3_isBox
set_option maxRecDepth 20000 in
theorem ggX3_write_X3_isSteps : GoodIn wsX3_write wsX3_isSteps := goodIn_r _ [11] (by decide +kernel) (by decide +kernel)
set_option maxRecDepth 20000 in
theorem gX3_write_X3_isSteps : GoodIn wsX3_write (va_wsS RX3 51 yX3_isSteps wsX3_isSteps) := goodIn_app (goodIn_of _ (by decide +kernel)) ggX3_write_X3_isSteps
set_option maxRecDepth 20000 in
theorem ggX3_write_X3_isKind : GoodIn wsX3_write wsX3_isKind := goodIn_r _ [14] (by decide +kernel) (by decide +kernel)
set_option maxRecDepth 20000 in
theorem gX3_write_X3_isKind : GoodIn wsX3_write (va_wsS RX3 41 yX3_isKind wsX3_isKind) := goodIn_app (goodIn_of _ (by decide +kernel)) ggX3_write_X3_isKind
set_option maxRecDepth 20000 in
theorem ggX3_write_X3_rowThere : GoodIn wsX3_write wsX3_rowThere := goodIn_r _ [18, 1, 2, 19, 20, 21, 22, 7, 23, 24, 25, 26, 27, 28, 29, 30, 31, 32, 33, 34, 35, 36, 37, 38, 39, 40, 41, 42, 43, 44, 45, 46, 47, 48, 49, 50, 51, 52, 53, 54, 55, 56, 57, 58, 59, 60, 127, 128, 129, 130, 131, 132, 133, 134, 135, 136, 137, 138, 139, 140, 141, 142] (by decide +kernel) (by decide +kernel)
set_option maxRecDepth 20000 in
theorem gX3_write_X3_rowThere : GoodIn wsX3_write (wsV RX3 77 RX3 yX3_rowThere wsX3_rowThere) := goodIn_app (goodIn_of _ (by decide +kernel)) ggX3_write_X3_rowThere
set_option maxRecDepth 20000 in
theorem ggX3_write_X3_met : GoodIn wsX3_write wsX3_met := goodIn_r _ [64, 65, 127, 128, 129, 130, 131, 132] (by decide +kernel) (by decide +kernel)
set_option maxRecDepth 20000 in
theorem gX3_write_X3_met : GoodIn wsX3_write (wsV RX3 44 RX3 yX3_met wsX3_met) := goodIn_app (goodIn_of _ (by decide +kernel)) ggX3_write_X3_met
set_option maxRecDepth 20000 in
theorem ggX3_write_X3_placeOfStep : GoodIn wsX3_write wsX3_placeOfStep := goodIn_r _ [35] (by decide +kernel) (by decide +kernel)
set_option maxRecDepth 20000 in
theorem gX3_write_X3_placeOfStep : GoodIn wsX3_write (va_wsS RX3 87 yX3_placeOfStep wsX3_placeOfStep) := goodIn_app (goodIn_of _ (by decide +kernel)) ggX3_write_X3_placeOfStep
set_option maxRecDepth 20000 in
theorem ggX3_write_X2_causeToWrite : GoodIn wsX3_write wsX2_causeToWrite := goodIn_r _ [69, 70, 71, 72, 73, 52, 74, 75, 56, 57, 58, 59, 76, 50, 51, 53, 54, 77, 78, 79, 80, 138, 139, 140, 141, 142] (by decide +kernel) (by decide +kernel)
set_option maxRecDepth 20000 in
theorem gX3_write_X2_causeToWrite : GoodIn wsX3_write (wsV RX3 105 RX2 yX2_causeToWrite wsX2_causeToWrite) := goodIn_app (goodIn_of _ (by decide +kernel)) ggX3_write_X2_causeToWrite
set_option maxRecDepth 20000 in
theorem ggX3_write_X1_told : GoodIn wsX3_write wsX1_told := goodIn_r _ [83, 84, 85, 86, 87, 88, 89, 79, 90] (by decide +kernel) (by decide +kernel)
set_option maxRecDepth 20000 in
theorem gX3_write_X1_told : GoodIn wsX3_write (va_wsS RX3 108 yX1_told wsX1_told) := goodIn_app (goodIn_of _ (by decide +kernel)) ggX3_write_X1_told
set_option maxRecDepth 20000 in
theorem ggX3_write_X1_asKind : GoodIn wsX3_write wsX1_asKind := goodIn_r _ [93, 94, 95, 79, 96, 84, 87, 86, 97, 98, 88, 89, 90, 99, 100, 101, 102, 103, 104, 105, 106, 107, 108, 109, 110, 111, 112, 113, 114, 115, 116, 117, 118, 119, 120, 121, 122, 123, 124, 125, 126] (by decide +kernel) (by decide +kernel)
set_option maxRecDepth 20000 in
theorem gX3_write_X1_asKind : GoodIn wsX3_write (va_wsS RX3 99 yX1_asKind wsX1_asKind) := goodIn_app (goodIn_of _ (by decide +kernel)) ggX3_write_X1_asKind
theorem dX3_write_0 : decode cX3_write 0 = .ok (.iload_n 1, 1) := by decide +kernel
theorem dX3_write_1 : decode cX3_write 1 = .ok (.invokestatic 37, 3) := by decide +kernel
theorem dX3_write_4 : decode cX3_write 4 = .ok (.ifCond .eq 20, 3) := by decide +kernel
theorem dX3_write_7 : decode cX3_write 7 = .ok (.iload_n 2, 1) := by decide +kernel
theorem dX3_write_8 : decode cX3_write 8 = .ok (.iconst 1, 1) := by decide +kernel
theorem dX3_write_9 : decode cX3_write 9 = .ok (.iconst 3, 1) := by decide +kernel
theorem dX3_write_10 : decode cX3_write 10 = .ok (.invokestatic 51, 3) := by decide +kernel
theorem dX3_write_13 : decode cX3_write 13 = .ok (.ifCond .eq 11, 3) := by decide +kernel
theorem dX3_write_16 : decode cX3_write 16 = .ok (.iload 6, 2) := by decide +kernel
theorem dX3_write_18 : decode cX3_write 18 = .ok (.invokestatic 41, 3) := by decide +kernel
theorem dX3_write_21 : decode cX3_write 21 = .ok (.ifCond .ne 5, 3) := by decide +kernel
theorem dX3_write_24 : decode cX3_write 24 = .ok (.iconst (-1), 1) := by decide +kernel
theorem dX3_write_25 : decode cX3_write 25 = .ok (.ireturn, 1) := by decide +kernel
theorem dX3_write_26 : decode cX3_write 26 = .ok (.aload_n 0, 1) := by decide +kernel
theorem dX3_write_27 : decode cX3_write 27 = .ok (.iload_n 1, 1) := by decide +kernel
theorem dX3_write_28 : decode cX3_write 28 = .ok (.iload_n 2, 1) := by decide +kernel
theorem dX3_write_29 : decode cX3_write 29 = .ok (.iconst 1, 1) := by decide +kernel
theorem dX3_write_30 : decode cX3_write 30 = .ok (.isub, 1) := by decide +kernel
theorem dX3_write_31 : decode cX3_write 31 = .ok (.iload_n 3, 1) := by decide +kernel
theorem dX3_write_32 : decode cX3_write 32 = .ok (.iload 4, 2) := by decide +kernel
theorem dX3_write_34 : decode cX3_write 34 = .ok (.iload 5, 2) := by decide +kernel
theorem dX3_write_36 : decode cX3_write 36 = .ok (.invokevirtual 77, 3) := by decide +kernel
theorem dX3_write_39 : decode cX3_write 39 = .ok (.astore 9, 2) := by decide +kernel
theorem dX3_write_41 : decode cX3_write 41 = .ok (.aload 9, 2) := by decide +kernel
theorem dX3_write_43 : decode cX3_write 43 = .ok (.ifnonnull 15, 3) := by decide +kernel
theorem dX3_write_46 : decode cX3_write 46 = .ok (.aload_n 0, 1) := by decide +kernel
theorem dX3_write_47 : decode cX3_write 47 = .ok (.aload_n 0, 1) := by decide +kernel
theorem dX3_write_48 : decode cX3_write 48 = .ok (.getfield 22, 3) := by decide +kernel
theorem dX3_write_51 : decode cX3_write 51 = .ok (.getfield 81, 3) := by decide +kernel
theorem dX3_write_54 : decode cX3_write 54 = .ok (.invokevirtual 44, 3) := by decide +kernel
theorem dX3_write_57 : decode cX3_write 57 = .ok (.ireturn, 1) := by decide +kernel
theorem dX3_write_58 : decode cX3_write 58 = .ok (.iload_n 2, 1) := by decide +kernel
theorem dX3_write_59 : decode cX3_write 59 = .ok (.iload_n 3, 1) := by decide +kernel
theorem dX3_write_60 : decode cX3_write 60 = .ok (.iload 4, 2) := by decide +kernel
theorem dX3_write_62 : decode cX3_write 62 = .ok (.iload 5, 2) := by decide +kernel
theorem dX3_write_64 : decode cX3_write 64 = .ok (.invokestatic 87, 3) := by decide +kernel
theorem dX3_write_67 : decode cX3_write 67 = .ok (.istore 10, 2) := by decide +kernel
theorem dX3_write_69 : decode cX3_write 69 = .ok (.aload 9, 2) := by decide +kernel
theorem dX3_write_71 : decode cX3_write 71 = .ok (.iload 10, 2) := by decide +kernel
theorem dX3_write_73 : decode cX3_write 73 = .ok (.iload 6, 2) := by decide +kernel
theorem dX3_write_75 : decode cX3_write 75 = .ok (.invokevirtual 105, 3) := by decide +kernel
theorem dX3_write_78 : decode cX3_write 78 = .ok (.istore 11, 2) := by decide +kernel
theorem dX3_write_80 : decode cX3_write 80 = .ok (.iload 11, 2) := by decide +kernel
theorem dX3_write_82 : decode cX3_write 82 = .ok (.ifCond .eq 10, 3) := by decide +kernel
theorem dX3_write_85 : decode cX3_write 85 = .ok (.aload_n 0, 1) := by decide +kernel
theorem dX3_write_86 : decode cX3_write 86 = .ok (.iload 11, 2) := by decide +kernel
theorem dX3_write_88 : decode cX3_write 88 = .ok (.invokevirtual 44, 3) := by decide +kernel
theorem dX3_write_91 : decode cX3_write 91 = .ok (.ireturn, 1) := by decide +kernel
theorem dX3_write_92 : decode cX3_write 92 = .ok (.aload 9, 2) := by decide +kernel
theorem dX3_write_94 : decode cX3_write 94 = .ok (.getfield 95, 3) := by decide +kernel
theorem dX3_write_97 : decode cX3_write 97 = .ok (.iload 10, 2) := by decide +kernel
theorem dX3_write_99 : decode cX3_write 99 = .ok (.iload 6, 2) := by decide +kernel
theorem dX3_write_101 : decode cX3_write 101 = .ok (.lload 7, 2) := by decide +kernel
theorem dX3_write_103 : decode cX3_write 103 = .ok (.invokestatic 108, 3) := by decide +kernel
theorem dX3_write_106 : decode cX3_write 106 = .ok (.iload 6, 2) := by decide +kernel
theorem dX3_write_108 : decode cX3_write 108 = .ok (.aload 9, 2) := by decide +kernel
theorem dX3_write_110 : decode cX3_write 110 = .ok (.getfield 73, 3) := by decide +kernel
theorem dX3_write_113 : decode cX3_write 113 = .ok (.invokestatic 99, 3) := by decide +kernel
theorem dX3_write_116 : decode cX3_write 116 = .ok (.lastore, 1) := by decide +kernel
theorem dX3_write_117 : decode cX3_write 117 = .ok (.iconst 1, 1) := by decide +kernel
theorem dX3_write_118 : decode cX3_write 118 = .ok (.ireturn, 1) := by decide +kernel
set_option maxRecDepth 20000 in
theorem ggX3_hang_X3_isBox : GoodIn wsX3_hang wsX3_isBox := goodIn_r _ [8] (by decide +kernel) (by decide +kernel)
set_option maxRecDepth 20000 in
theorem gX3_hang_X3_isBox : GoodIn wsX3_hang (va_wsS RX3 37 yX3_isBox wsX3_isBox) := goodIn_app (goodIn_of _ (by decide +kernel)) ggX3_hang_X3_isBox
set_option maxRecDepth 20000 in
theorem ggX3_hang_X3_isSteps : GoodIn wsX3_hang wsX3_isSteps := goodIn_r _ [11] (by decide +kernel) (by decide +kernel)
set_option maxRecDepth 20000 in
theorem gX3_hang_X3_isSteps : GoodIn wsX3_hang (va_wsS RX3 51 yX3_isSteps wsX3_isSteps) := goodIn_app (goodIn_of _ (by decide +kernel)) ggX3_hang_X3_isSteps
set_option maxRecDepth 20000 in
theorem ggX3_hang_X3_rowThere : GoodIn wsX3_hang wsX3_rowThere := goodIn_r _ [15, 1, 2, 16, 17, 18, 19, 7, 20, 3, 21, 22, 23, 24, 25, 26, 27, 28, 29, 30, 31, 32, 33, 34, 35, 36, 37, 38, 39, 40, 41, 42, 43, 44, 45, 46, 47, 48, 49, 50, 51, 52, 53, 54, 55, 56, 69, 70, 71, 72, 73, 74, 75, 76, 77, 78, 79, 80, 81, 82, 83, 84] (by decide +kernel) (by decide +kernel)
set_option maxRecDepth 20000 in
theorem gX3_hang_X3_rowThere : GoodIn wsX3_hang (wsV RX3 77 RX3 yX3_rowThere wsX3_rowThere) := goodIn_app (goodIn_of _ (by decide +kernel)) ggX3_hang_X3_rowThere
set_option maxRecDepth 20000 in
theorem ggX3_hang_X3_met : GoodIn wsX3_hang wsX3_met := goodIn_r _ [60, 61, 69, 70, 71, 72, 73, 74] (by decide +kernel) (by decide +kernel)
set_option maxRecDepth 20000 in
theorem gX3_hang_X3_met : GoodIn wsX3_hang (wsV RX3 44 RX3 yX3_met wsX3_met) := goodIn_app (goodIn_of _ (by decide +kernel)) ggX3_hang_X3_met
set_option maxRecDepth 20000 in
theorem ggX3_hang_X3_placeOfStep : GoodIn wsX3_hang wsX3_placeOfStep := goodIn_r _ [31] (by decide +kernel) (by decide +kernel)
set_option maxRecDepth 20000 in
theorem gX3_hang_X3_placeOfStep : GoodIn wsX3_hang (va_wsS RX3 87 yX3_placeOfStep wsX3_placeOfStep) := goodIn_app (goodIn_of _ (by decide +kernel)) ggX3_hang_X3_placeOfStep
set_option maxRecDepth 20000 in
theorem ggX3_hang_X2_causeToHang : GoodIn wsX3_hang wsX2_causeToHang := goodIn_r _ [65, 66, 55, 67, 52, 53, 48, 54, 68, 46, 47, 49, 50, 80, 81, 82, 83, 84] (by decide +kernel) (by decide +kernel)
set_option maxRecDepth 20000 in
theorem gX3_hang_X2_causeToHang : GoodIn wsX3_hang (wsV RX3 112 RX2 yX2_causeToHang wsX2_causeToHang) := goodIn_app (goodIn_of _ (by decide +kernel)) ggX3_hang_X2_causeToHang
theorem dX3_hang_0 : decode cX3_hang 0 = .ok (.iload_n 1, 1) := by decide +kernel
theorem dX3_hang_1 : decode cX3_hang 1 = .ok (.invokestatic 37, 3) := by decide +kernel
theorem dX3_hang_4 : decode cX3_hang 4 = .ok (.ifCond .eq 20, 3) := by decide +kernel
theorem dX3_hang_7 : decode cX3_hang 7 = .ok (.iload_n 2, 1) := by decide +kernel
theorem dX3_hang_8 : decode cX3_hang 8 = .ok (.iconst 1, 1) := by decide +kernel
theorem dX3_hang_9 : decode cX3_hang 9 = .ok (.iconst 3, 1) := by decide +kernel
theorem dX3_hang_10 : decode cX3_hang 10 = .ok (.invokestatic 51, 3) := by decide +kernel
theorem dX3_hang_13 : decode cX3_hang 13 = .ok (.ifCond .eq 11, 3) := by decide +kernel
theorem dX3_hang_16 : decode cX3_hang 16 = .ok (.iload 6, 2) := by decide +kernel
theorem dX3_hang_18 : decode cX3_hang 18 = .ok (.invokestatic 37, 3) := by decide +kernel
theorem dX3_hang_21 : decode cX3_hang 21 = .ok (.ifCond .ne 5, 3) := by decide +kernel
theorem dX3_hang_24 : decode cX3_hang 24 = .ok (.iconst (-1), 1) := by decide +kernel
theorem dX3_hang_25 : decode cX3_hang 25 = .ok (.ireturn, 1) := by decide +kernel
theorem dX3_hang_26 : decode cX3_hang 26 = .ok (.aload_n 0, 1) := by decide +kernel
theorem dX3_hang_27 : decode cX3_hang 27 = .ok (.iload_n 1, 1) := by decide +kernel
theorem dX3_hang_28 : decode cX3_hang 28 = .ok (.iload_n 2, 1) := by decide +kernel
theorem dX3_hang_29 : decode cX3_hang 29 = .ok (.iconst 1, 1) := by decide +kernel
theorem dX3_hang_30 : decode cX3_hang 30 = .ok (.isub, 1) := by decide +kernel
theorem dX3_hang_31 : decode cX3_hang 31 = .ok (.iload_n 3, 1) := by decide +kernel
theorem dX3_hang_32 : decode cX3_hang 32 = .ok (.iload 4, 2) := by decide +kernel
theorem dX3_hang_34 : decode cX3_hang 34 = .ok (.iload 5, 2) := by decide +kernel
theorem dX3_hang_36 : decode cX3_hang 36 = .ok (.invokevirtual 77, 3) := by decide +kernel
theorem dX3_hang_39 : decode cX3_hang 39 = .ok (.astore 7, 2) := by decide +kernel
theorem dX3_hang_41 : decode cX3_hang 41 = .ok (.aload 7, 2) := by decide +kernel
theorem dX3_hang_43 : decode cX3_hang 43 = .ok (.ifnonnull 15, 3) := by decide +kernel
theorem dX3_hang_46 : decode cX3_hang 46 = .ok (.aload_n 0, 1) := by decide +kernel
theorem dX3_hang_47 : decode cX3_hang 47 = .ok (.aload_n 0, 1) := by decide +kernel
theorem dX3_hang_48 : decode cX3_hang 48 = .ok (.getfield 22, 3) := by decide +kernel
theorem dX3_hang_51 : decode cX3_hang 51 = .ok (.getfield 81, 3) := by decide +kernel
theorem dX3_hang_54 : decode cX3_hang 54 = .ok (.invokevirtual 44, 3) := by decide +kernel
theorem dX3_hang_57 : decode cX3_hang 57 = .ok (.ireturn, 1) := by decide +kernel
theorem dX3_hang_58 : decode cX3_hang 58 = .ok (.iload_n 2, 1) := by decide +kernel
theorem dX3_hang_59 : decode cX3_hang 59 = .ok (.iload_n 3, 1) := by decide +kernel
theorem dX3_hang_60 : decode cX3_hang 60 = .ok (.iload 4, 2) := by decide +kernel
theorem dX3_hang_62 : decode cX3_hang 62 = .ok (.iload 5, 2) := by decide +kernel
theorem dX3_hang_64 : decode cX3_hang 64 = .ok (.invokestatic 87, 3) := by decide +kernel
theorem dX3_hang_67 : decode cX3_hang 67 = .ok (.istore 8, 2) := by decide +kernel
theorem dX3_hang_69 : decode cX3_hang 69 = .ok (.aload 7, 2) := by decide +kernel
theorem dX3_hang_71 : decode cX3_hang 71 = .ok (.iload 8, 2) := by decide +kernel
theorem dX3_hang_73 : decode cX3_hang 73 = .ok (.aload_n 0, 1) := by decide +kernel
theorem dX3_hang_74 : decode cX3_hang 74 = .ok (.getfield 11, 3) := by decide +kernel
theorem dX3_hang_77 : decode cX3_hang 77 = .ok (.iload 6, 2) := by decide +kernel
theorem dX3_hang_79 : decode cX3_hang 79 = .ok (.aaload, 1) := by decide +kernel
theorem dX3_hang_80 : decode cX3_hang 80 = .ok (.invokevirtual 112, 3) := by decide +kernel
theorem dX3_hang_83 : decode cX3_hang 83 = .ok (.istore 9, 2) := by decide +kernel
theorem dX3_hang_85 : decode cX3_hang 85 = .ok (.iload 9, 2) := by decide +kernel
theorem dX3_hang_87 : decode cX3_hang 87 = .ok (.ifCond .eq 10, 3) := by decide +kernel
theorem dX3_hang_90 : decode cX3_hang 90 = .ok (.aload_n 0, 1) := by decide +kernel
theorem dX3_hang_91 : decode cX3_hang 91 = .ok (.iload 9, 2) := by decide +kernel
theorem dX3_hang_93 : decode cX3_hang 93 = .ok (.invokevirtual 44, 3) := by decide +kernel
theorem dX3_hang_96 : decode cX3_hang 96 = .ok (.ireturn, 1) := by decide +kernel
theorem dX3_hang_97 : decode cX3_hang 97 = .ok (.aload 7, 2) := by decide +kernel
theorem dX3_hang_99 : decode cX3_hang 99 = .ok (.getfield 116, 3) := by decide +kernel
theorem dX3_hang_102 : decode cX3_hang 102 = .ok (.iload 8, 2) := by decide +kernel
theorem dX3_hang_104 : decode cX3_hang 104 = .ok (.aload_n 0, 1) := by decide +kernel
theorem dX3_hang_105 : decode cX3_hang 105 = .ok (.getfield 11, 3) := by decide +kernel
theorem dX3_hang_108 : decode cX3_hang 108 = .ok (.iload 6, 2) := by decide +kernel
theorem dX3_hang_110 : decode cX3_hang 110 = .ok (.aaload, 1) := by decide +kernel
theorem dX3_hang_111 : decode cX3_hang 111 = .ok (.aastore, 1) := by decide +kernel
theorem dX3_hang_112 : decode cX3_hang 112 = .ok (.iconst 1, 1) := by decide +kernel
theorem dX3_hang_113 : decode cX3_hang 113 = .ok (.ireturn, 1) := by decide +kernel
set_option maxRecDepth 20000 in
theorem ggX3_lift_X3_isBox : GoodIn wsX3_lift wsX3_isBox := goodIn_r _ [8] (by decide +kernel) (by decide +kernel)
set_option maxRecDepth 20000 in
theorem gX3_lift_X3_isBox : GoodIn wsX3_lift (va_wsS RX3 37 yX3_isBox wsX3_isBox) := goodIn_app (goodIn_of _ (by decide +kernel)) ggX3_lift_X3_isBox
set_option maxRecDepth 20000 in
theorem ggX3_lift_X3_isSteps : GoodIn wsX3_lift wsX3_isSteps := goodIn_r _ [11] (by decide +kernel) (by decide +kernel)
set_option maxRecDepth 20000 in
theorem gX3_lift_X3_isSteps : GoodIn wsX3_lift (va_wsS RX3 51 yX3_isSteps wsX3_isSteps) := goodIn_app (goodIn_of _ (by decide +kernel)) ggX3_lift_X3_isSteps
set_option maxRecDepth 20000 in
theorem ggX3_lift_X3_walk : GoodIn wsX3_lift wsX3_walk := goodIn_r _ [15, 1, 3, 16, 17, 18, 19, 20, 21, 22, 23, 24, 25, 26, 7, 27, 28, 29, 30, 31, 32, 33, 34, 35, 36, 37, 38, 39, 40, 41, 42, 43, 44, 45, 46, 47, 48, 49, 50, 51, 57, 58, 59, 60, 61, 62, 63, 64, 65, 66, 67, 68, 69, 70, 71, 72] (by decide +kernel) (by decide +kernel)
set_option maxRecDepth 20000 in
theorem gX3_lift_X3_walk : GoodIn wsX3_lift (wsV RX3 55 RX3 yX3_walk wsX3_walk) := goodIn_app (goodIn_of _ (by decide +kernel)) ggX3_lift_X3_walk
set_option maxRecDepth 20000 in
theorem ggX3_lift_X3_met : GoodIn wsX3_lift wsX3_met := goodIn_r _ [55, 56, 57, 58, 59, 60, 61, 62] (by decide +kernel) (by decide +kernel)
set_option maxRecDepth 20000 in
theorem gX3_lift_X3_met : GoodIn wsX3_lift (wsV RX3 44 RX3 yX3_met wsX3_met) := goodIn_app (goodIn_of _ (by decide +kernel)) ggX3_lift_X3_met
theorem dX3_lift_0 : decode cX3_lift 0 = .ok (.iload_n 1, 1) := by decide +kernel
theorem dX3_lift_1 : decode cX3_lift 1 = .ok (.invokestatic 37, 3) := by decide +kernel
theorem dX3_lift_4 : decode cX3_lift 4 = .ok (.ifCond .eq 20, 3) := by decide +kernel
theorem dX3_lift_7 : decode cX3_lift 7 = .ok (.iload_n 2, 1) := by decide +kernel
theorem dX3_lift_8 : decode cX3_lift 8 = .ok (.iconst 1, 1) := by decide +kernel
theorem dX3_lift_9 : decode cX3_lift 9 = .ok (.iconst 3, 1) := by decide +kernel
theorem dX3_lift_10 : decode cX3_lift 10 = .ok (.invokestatic 51, 3) := by decide +kernel
theorem dX3_lift_13 : decode cX3_lift 13 = .ok (.ifCond .eq 11, 3) := by decide +kernel
theorem dX3_lift_16 : decode cX3_lift 16 = .ok (.iload 6, 2) := by decide +kernel
theorem dX3_lift_18 : decode cX3_lift 18 = .ok (.invokestatic 37, 3) := by decide +kernel
theorem dX3_lift_21 : decode cX3_lift 21 = .ok (.ifCond .ne 5, 3) := by decide +kernel
theorem dX3_lift_24 : decode cX3_lift 24 = .ok (.iconst (-1), 1) := by decide +kernel
theorem dX3_lift_25 : decode cX3_lift 25 = .ok (.ireturn, 1) := by decide +kernel
theorem dX3_lift_26 : decode cX3_lift 26 = .ok (.aload_n 0, 1) := by decide +kernel
theorem dX3_lift_27 : decode cX3_lift 27 = .ok (.iload_n 1, 1) := by decide +kernel
theorem dX3_lift_28 : decode cX3_lift 28 = .ok (.iload_n 2, 1) := by decide +kernel
theorem dX3_lift_29 : decode cX3_lift 29 = .ok (.iload_n 3, 1) := by decide +kernel
theorem dX3_lift_30 : decode cX3_lift 30 = .ok (.iload 4, 2) := by decide +kernel
theorem dX3_lift_32 : decode cX3_lift 32 = .ok (.iload 5, 2) := by decide +kernel
theorem dX3_lift_34 : decode cX3_lift 34 = .ok (.invokevirtual 55, 3) := by decide +kernel
theorem dX3_lift_37 : decode cX3_lift 37 = .ok (.istore 7, 2) := by decide +kernel
theorem dX3_lift_39 : decode cX3_lift 39 = .ok (.iload 7, 2) := by decide +kernel
theorem dX3_lift_41 : decode cX3_lift 41 = .ok (.ifCond .ne 16, 3) := by decide +kernel
theorem dX3_lift_44 : decode cX3_lift 44 = .ok (.aload_n 0, 1) := by decide +kernel
theorem dX3_lift_45 : decode cX3_lift 45 = .ok (.getfield 22, 3) := by decide +kernel
theorem dX3_lift_48 : decode cX3_lift 48 = .ok (.getfield 59, 3) := by decide +kernel
theorem dX3_lift_51 : decode cX3_lift 51 = .ok (.ifCond .eq 6, 3) := by decide +kernel
theorem dX3_lift_54 : decode cX3_lift 54 = .ok (.iconst 2, 1) := by decide +kernel
theorem dX3_lift_55 : decode cX3_lift 55 = .ok (.istore 7, 2) := by decide +kernel
theorem dX3_lift_57 : decode cX3_lift 57 = .ok (.iload 7, 2) := by decide +kernel
theorem dX3_lift_59 : decode cX3_lift 59 = .ok (.ifCond .eq 10, 3) := by decide +kernel
theorem dX3_lift_62 : decode cX3_lift 62 = .ok (.aload_n 0, 1) := by decide +kernel
theorem dX3_lift_63 : decode cX3_lift 63 = .ok (.iload 7, 2) := by decide +kernel
theorem dX3_lift_65 : decode cX3_lift 65 = .ok (.invokevirtual 44, 3) := by decide +kernel
theorem dX3_lift_68 : decode cX3_lift 68 = .ok (.ireturn, 1) := by decide +kernel
theorem dX3_lift_69 : decode cX3_lift 69 = .ok (.aload_n 0, 1) := by decide +kernel
theorem dX3_lift_70 : decode cX3_lift 70 = .ok (.getfield 11, 3) := by decide +kernel
theorem dX3_lift_73 : decode cX3_lift 73 = .ok (.iload 6, 2) := by decide +kernel
theorem dX3_lift_75 : decode cX3_lift 75 = .ok (.aload_n 0, 1) := by decide +kernel
theorem dX3_lift_76 : decode cX3_lift 76 = .ok (.getfield 22, 3) := by decide +kernel
theorem dX3_lift_79 : decode cX3_lift 79 = .ok (.getfield 69, 3) := by decide +kernel
theorem dX3_lift_82 : decode cX3_lift 82 = .ok (.aastore, 1) := by decide +kernel
theorem dX3_lift_83 : decode cX3_lift 83 = .ok (.aload_n 0, 1) := by decide +kernel
theorem dX3_lift_84 : decode cX3_lift 84 = .ok (.getfield 11, 3) := by decide +kernel
theorem dX3_lift_87 : decode cX3_lift 87 = .ok (.iload 6, 2) := by decide +kernel
theorem dX3_lift_89 : decode cX3_lift 89 = .ok (.aaload, 1) := by decide +kernel
theorem dX3_lift_90 : decode cX3_lift 90 = .ok (.ifnonnull 7, 3) := by decide +kernel
theorem dX3_lift_93 : decode cX3_lift 93 = .ok (.iconst 0, 1) := by decide +kernel
theorem dX3_lift_94 : decode cX3_lift 94 = .ok (.goto 4, 3) := by decide +kernel
theorem dX3_lift_97 : decode cX3_lift 97 = .ok (.iconst 1, 1) := by decide +kernel
theorem dX3_lift_98 : decode cX3_lift 98 = .ok (.ireturn, 1) := by decide +kernel
set_option maxRecDepth 20000 in
theorem ggX3_turn_X3_isBox : GoodIn wsX3_turn wsX3_isBox := goodIn_r _ [6] (by decide +kernel) (by decide +kernel)
set_option maxRecDepth 20000 in
theorem gX3_turn_X3_isBox : GoodIn wsX3_turn (va_wsS RX3 37 yX3_isBox wsX3_isBox) := goodIn_app (goodIn_of _ (by decide +kernel)) ggX3_turn_X3_isBox
set_option maxRecDepth 20000 in
theorem ggX3_turn_X3_isSteps : GoodIn wsX3_turn wsX3_isSteps := goodIn_r _ [9] (by decide +kernel) (by decide +kernel)
set_option maxRecDepth 20000 in
theorem gX3_turn_X3_isSteps : GoodIn wsX3_turn (va_wsS RX3 51 yX3_isSteps wsX3_isSteps) := goodIn_app (goodIn_of _ (by decide +kernel)) ggX3_turn_X3_isSteps
set_option maxRecDepth 20000 in
theorem ggX3_turn_X3_rowThere : GoodIn wsX3_turn wsX3_rowThere := goodIn_r _ [13, 1, 2, 14, 15, 16, 17, 5, 18, 19, 20, 21, 22, 23, 24, 25, 26, 27, 28, 29, 30, 31, 32, 33, 34, 35, 36, 37, 38, 39, 40, 41, 42, 43, 44, 45, 46, 47, 48, 49, 50, 51, 52, 53, 54, 55, 69, 70, 71, 72, 73, 74, 75, 76, 77, 78, 79, 80, 81, 82, 83, 84] (by decide +kernel) (by decide +kernel)
set_option maxRecDepth 20000 in
theorem gX3_turn_X3_rowThere : GoodIn wsX3_turn (wsV RX3 77 RX3 yX3_rowThere wsX3_rowThere) := goodIn_app (goodIn_of _ (by decide +kernel)) ggX3_turn_X3_rowThere
set_option maxRecDepth 20000 in
theorem ggX3_turn_X3_met : GoodIn wsX3_turn wsX3_met := goodIn_r _ [59, 60, 69, 70, 71, 72, 73, 74] (by decide +kernel) (by decide +kernel)
set_option maxRecDepth 20000 in
theorem gX3_turn_X3_met : GoodIn wsX3_turn (wsV RX3 44 RX3 yX3_met wsX3_met) := goodIn_app (goodIn_of _ (by decide +kernel)) ggX3_turn_X3_met
set_option maxRecDepth 20000 in
theorem ggX3_turn_X2_hasPlace : GoodIn wsX3_turn wsX2_hasPlace := goodIn_r _ [48, 49, 80, 81, 82, 83, 84] (by decide +kernel) (by decide +kernel)
set_option maxRecDepth 20000 in
theorem gX3_turn_X2_hasPlace : GoodIn wsX3_turn (wsV RX3 119 RX2 yX2_hasPlace wsX2_hasPlace) := goodIn_app (goodIn_of _ (by decide +kernel)) ggX3_turn_X2_hasPlace
set_option maxRecDepth 20000 in
theorem ggX3_turn_X2_exchange : GoodIn wsX3_turn wsX2_exchange := goodIn_r _ [65, 66, 67, 68, 51, 52, 47, 53, 54, 80, 81, 82, 83, 84] (by decide +kernel) (by decide +kernel)
set_option maxRecDepth 20000 in
theorem gX3_turn_X2_exchange : GoodIn wsX3_turn (wsV RX3 122 RX2 yX2_exchange wsX2_exchange) := goodIn_app (goodIn_of _ (by decide +kernel)) ggX3_turn_X2_exchange
theorem dX3_turn_0 : decode cX3_turn 0 = .ok (.iload_n 1, 1) := by decide +kernel
theorem dX3_turn_1 : decode cX3_turn 1 = .ok (.invokestatic 37, 3) := by decide +kernel
theorem dX3_turn_4 : decode cX3_turn 4 = .ok (.ifCond .eq 12, 3) := by decide +kernel
theorem dX3_turn_7 : decode cX3_turn 7 = .ok (.iload_n 2, 1) := by decide +kernel
theorem dX3_turn_8 : decode cX3_turn 8 = .ok (.iconst 0, 1) := by decide +kernel
theorem dX3_turn_9 : decode cX3_turn 9 = .ok (.iconst 2, 1) := by decide +kernel
theorem dX3_turn_10 : decode cX3_turn 10 = .ok (.invokestatic 51, 3) := by decide +kernel
theorem dX3_turn_13 : decode cX3_turn 13 = .ok (.ifCond .ne 5, 3) := by decide +kernel
theorem dX3_turn_16 : decode cX3_turn 16 = .ok (.iconst (-1), 1) := by decide +kernel
theorem dX3_turn_17 : decode cX3_turn 17 = .ok (.ireturn, 1) := by decide +kernel
theorem dX3_turn_18 : decode cX3_turn 18 = .ok (.aload_n 0, 1) := by decide +kernel
theorem dX3_turn_19 : decode cX3_turn 19 = .ok (.iload_n 1, 1) := by decide +kernel
theorem dX3_turn_20 : decode cX3_turn 20 = .ok (.iload_n 2, 1) := by decide +kernel
theorem dX3_turn_21 : decode cX3_turn 21 = .ok (.iload_n 3, 1) := by decide +kernel
theorem dX3_turn_22 : decode cX3_turn 22 = .ok (.iload 4, 2) := by decide +kernel
theorem dX3_turn_24 : decode cX3_turn 24 = .ok (.iconst 0, 1) := by decide +kernel
theorem dX3_turn_25 : decode cX3_turn 25 = .ok (.invokevirtual 77, 3) := by decide +kernel
theorem dX3_turn_28 : decode cX3_turn 28 = .ok (.astore 7, 2) := by decide +kernel
theorem dX3_turn_30 : decode cX3_turn 30 = .ok (.aload 7, 2) := by decide +kernel
theorem dX3_turn_32 : decode cX3_turn 32 = .ok (.ifnonnull 15, 3) := by decide +kernel
theorem dX3_turn_35 : decode cX3_turn 35 = .ok (.aload_n 0, 1) := by decide +kernel
theorem dX3_turn_36 : decode cX3_turn 36 = .ok (.aload_n 0, 1) := by decide +kernel
theorem dX3_turn_37 : decode cX3_turn 37 = .ok (.getfield 22, 3) := by decide +kernel
theorem dX3_turn_40 : decode cX3_turn 40 = .ok (.getfield 81, 3) := by decide +kernel
theorem dX3_turn_43 : decode cX3_turn 43 = .ok (.invokevirtual 44, 3) := by decide +kernel
theorem dX3_turn_46 : decode cX3_turn 46 = .ok (.ireturn, 1) := by decide +kernel
theorem dX3_turn_47 : decode cX3_turn 47 = .ok (.aload 7, 2) := by decide +kernel
theorem dX3_turn_49 : decode cX3_turn 49 = .ok (.iload 5, 2) := by decide +kernel
theorem dX3_turn_51 : decode cX3_turn 51 = .ok (.invokevirtual 119, 3) := by decide +kernel
theorem dX3_turn_54 : decode cX3_turn 54 = .ok (.ifCond .eq 13, 3) := by decide +kernel
theorem dX3_turn_57 : decode cX3_turn 57 = .ok (.aload 7, 2) := by decide +kernel
theorem dX3_turn_59 : decode cX3_turn 59 = .ok (.iload 6, 2) := by decide +kernel
theorem dX3_turn_61 : decode cX3_turn 61 = .ok (.invokevirtual 119, 3) := by decide +kernel
theorem dX3_turn_64 : decode cX3_turn 64 = .ok (.ifCond .ne 9, 3) := by decide +kernel
theorem dX3_turn_67 : decode cX3_turn 67 = .ok (.aload_n 0, 1) := by decide +kernel
theorem dX3_turn_68 : decode cX3_turn 68 = .ok (.iconst 3, 1) := by decide +kernel
theorem dX3_turn_69 : decode cX3_turn 69 = .ok (.invokevirtual 44, 3) := by decide +kernel
theorem dX3_turn_72 : decode cX3_turn 72 = .ok (.ireturn, 1) := by decide +kernel
theorem dX3_turn_73 : decode cX3_turn 73 = .ok (.aload 7, 2) := by decide +kernel
theorem dX3_turn_75 : decode cX3_turn 75 = .ok (.iload 5, 2) := by decide +kernel
theorem dX3_turn_77 : decode cX3_turn 77 = .ok (.iload 6, 2) := by decide +kernel
theorem dX3_turn_79 : decode cX3_turn 79 = .ok (.invokevirtual 122, 3) := by decide +kernel
theorem dX3_turn_82 : decode cX3_turn 82 = .ok (.iconst 1, 1) := by decide +kernel
theorem dX3_turn_83 : decode cX3_turn 83 = .ok (.ireturn, 1) := by decide +kernel
set_option maxRecDepth 20000 in
theorem ggX3_fill_X3_isBox : GoodIn wsX3_fill wsX3_isBox := goodIn_r _ [9] (by decide +kernel) (by decide +kernel)
set_option maxRecDepth 20000 in
theorem gX3_fill_X3_isBox : GoodIn wsX3_fill (va_wsS RX3 37 yX3_isBox wsX3_isBox) := goodIn_app (goodIn_of _ (by decide +kernel)) ggX3_fill_X3_isBox
set_option maxRecDepth 20000 in
theorem ggX3_fill_X3_isSteps : GoodIn wsX3_fill wsX3_isSteps := goodIn_r _ [12] (by decide +kernel) (by decide +kernel)
set_option maxRecDepth 20000 in
theorem gX3_fill_X3_isSteps : GoodIn wsX3_fill (va_wsS RX3 51 yX3_isSteps wsX3_isSteps) := goodIn_app (goodIn_of _ (by decide +kernel)) ggX3_fill_X3_isSteps
set_option maxRecDepth 20000 in
theorem ggX3_fill_X3_isKind : GoodIn wsX3_fill wsX3_isKind := goodIn_r _ [15] (by decide +kernel) (by decide +kernel)
set_option maxRecDepth 20000 in
theorem gX3_fill_X3_isKind : GoodIn wsX3_fill (va_wsS RX3 41 yX3_isKind wsX3_isKind) := goodIn_app (goodIn_of _ (by decide +kernel)) ggX3_fill_X3_isKind
set_option maxRecDepth 20000 in
theorem ggX3_fill_X3_rowThere : GoodIn wsX3_fill wsX3_rowThere := goodIn_r _ [19, 1, 2, 20, 21, 22, 23, 8, 24, 25, 26, 27, 28, 29, 30, 31, 32, 33, 34, 35, 36, 37, 38, 39, 40, 41, 42, 43, 44, 45, 46, 47, 48, 49, 50, 51, 52, 53, 54, 55, 56, 57, 58, 59, 60, 61, 128, 129, 130, 131, 132, 133, 134, 135, 136, 137, 138, 139, 140, 141, 142, 143] (by decide +kernel) (by decide +kernel)
set_option maxRecDepth 20000 in
theorem gX3_fill_X3_rowThere : GoodIn wsX3_fill (wsV RX3 77 RX3 yX3_rowThere wsX3_rowThere) := goodIn_app (goodIn_of _ (by decide +kernel)) ggX3_fill_X3_rowThere
set_option maxRecDepth 20000 in
theorem ggX3_fill_X3_met : GoodIn wsX3_fill wsX3_met := goodIn_r _ [65, 66, 128, 129, 130, 131, 132, 133] (by decide +kernel) (by decide +kernel)
set_option maxRecDepth 20000 in
theorem gX3_fill_X3_met : GoodIn wsX3_fill (wsV RX3 44 RX3 yX3_met wsX3_met) := goodIn_app (goodIn_of _ (by decide +kernel)) ggX3_fill_X3_met
set_option maxRecDepth 20000 in
theorem ggX3_fill_X2_causeToWrite : GoodIn wsX3_fill wsX2_causeToWrite := goodIn_r _ [70, 71, 72, 73, 74, 53, 75, 76, 57, 58, 59, 60, 77, 51, 52, 54, 55, 78, 79, 80, 81, 139, 140, 141, 142, 143] (by decide +kernel) (by decide +kernel)
set_option maxRecDepth 20000 in
theorem gX3_fill_X2_causeToWrite : GoodIn wsX3_fill (wsV RX3 105 RX2 yX2_causeToWrite wsX2_causeToWrite) := goodIn_app (goodIn_of _ (by decide +kernel)) ggX3_fill_X2_causeToWrite
set_option maxRecDepth 20000 in
theorem ggX3_fill_X1_told : GoodIn wsX3_fill wsX1_told := goodIn_r _ [84, 85, 86, 87, 88, 89, 90, 80, 91] (by decide +kernel) (by decide +kernel)
set_option maxRecDepth 20000 in
theorem gX3_fill_X1_told : GoodIn wsX3_fill (va_wsS RX3 108 yX1_told wsX1_told) := goodIn_app (goodIn_of _ (by decide +kernel)) ggX3_fill_X1_told
set_option maxRecDepth 20000 in
theorem ggX3_fill_X1_asKind : GoodIn wsX3_fill wsX1_asKind := goodIn_r _ [94, 95, 96, 80, 97, 85, 88, 87, 98, 99, 89, 90, 91, 100, 101, 102, 103, 104, 105, 106, 107, 108, 109, 110, 111, 112, 113, 114, 115, 116, 117, 118, 119, 120, 121, 122, 123, 124, 125, 126, 127] (by decide +kernel) (by decide +kernel)
set_option maxRecDepth 20000 in
theorem gX3_fill_X1_asKind : GoodIn wsX3_fill (va_wsS RX3 99 yX1_asKind wsX1_asKind) := goodIn_app (goodIn_of _ (by decide +kernel)) ggX3_fill_X1_asKind
theorem dX3_fill_0 : decode cX3_fill 0 = .ok (.iload_n 1, 1) := by decide +kernel
theorem dX3_fill_1 : decode cX3_fill 1 = .ok (.invokestatic 37, 3) := by decide +kernel
theorem dX3_fill_4 : decode cX3_fill 4 = .ok (.ifCond .eq 20, 3) := by decide +kernel
theorem dX3_fill_7 : decode cX3_fill 7 = .ok (.iload_n 2, 1) := by decide +kernel
theorem dX3_fill_8 : decode cX3_fill 8 = .ok (.iconst 0, 1) := by decide +kernel
theorem dX3_fill_9 : decode cX3_fill 9 = .ok (.iconst 2, 1) := by decide +kernel
theorem dX3_fill_10 : decode cX3_fill 10 = .ok (.invokestatic 51, 3) := by decide +kernel
theorem dX3_fill_13 : decode cX3_fill 13 = .ok (.ifCond .eq 11, 3) := by decide +kernel
theorem dX3_fill_16 : decode cX3_fill 16 = .ok (.iload 5, 2) := by decide +kernel
theorem dX3_fill_18 : decode cX3_fill 18 = .ok (.invokestatic 41, 3) := by decide +kernel
theorem dX3_fill_21 : decode cX3_fill 21 = .ok (.ifCond .ne 5, 3) := by decide +kernel
theorem dX3_fill_24 : decode cX3_fill 24 = .ok (.iconst (-1), 1) := by decide +kernel
theorem dX3_fill_25 : decode cX3_fill 25 = .ok (.ireturn, 1) := by decide +kernel
theorem dX3_fill_26 : decode cX3_fill 26 = .ok (.aload_n 0, 1) := by decide +kernel
theorem dX3_fill_27 : decode cX3_fill 27 = .ok (.iload_n 1, 1) := by decide +kernel
theorem dX3_fill_28 : decode cX3_fill 28 = .ok (.iload_n 2, 1) := by decide +kernel
theorem dX3_fill_29 : decode cX3_fill 29 = .ok (.iload_n 3, 1) := by decide +kernel
theorem dX3_fill_30 : decode cX3_fill 30 = .ok (.iload 4, 2) := by decide +kernel
theorem dX3_fill_32 : decode cX3_fill 32 = .ok (.iconst 0, 1) := by decide +kernel
theorem dX3_fill_33 : decode cX3_fill 33 = .ok (.invokevirtual 77, 3) := by decide +kernel
theorem dX3_fill_36 : decode cX3_fill 36 = .ok (.astore 8, 2) := by decide +kernel
theorem dX3_fill_38 : decode cX3_fill 38 = .ok (.aload 8, 2) := by decide +kernel
theorem dX3_fill_40 : decode cX3_fill 40 = .ok (.ifnonnull 15, 3) := by decide +kernel
theorem dX3_fill_43 : decode cX3_fill 43 = .ok (.aload_n 0, 1) := by decide +kernel
theorem dX3_fill_44 : decode cX3_fill 44 = .ok (.aload_n 0, 1) := by decide +kernel
theorem dX3_fill_45 : decode cX3_fill 45 = .ok (.getfield 22, 3) := by decide +kernel
theorem dX3_fill_48 : decode cX3_fill 48 = .ok (.getfield 81, 3) := by decide +kernel
theorem dX3_fill_51 : decode cX3_fill 51 = .ok (.invokevirtual 44, 3) := by decide +kernel
theorem dX3_fill_54 : decode cX3_fill 54 = .ok (.ireturn, 1) := by decide +kernel
theorem dX3_fill_55 : decode cX3_fill 55 = .ok (.aload 8, 2) := by decide +kernel
theorem dX3_fill_57 : decode cX3_fill 57 = .ok (.getfield 84, 3) := by decide +kernel
theorem dX3_fill_60 : decode cX3_fill 60 = .ok (.ifCond .ne 5, 3) := by decide +kernel
theorem dX3_fill_63 : decode cX3_fill 63 = .ok (.iconst 0, 1) := by decide +kernel
theorem dX3_fill_64 : decode cX3_fill 64 = .ok (.ireturn, 1) := by decide +kernel
theorem dX3_fill_65 : decode cX3_fill 65 = .ok (.aload 8, 2) := by decide +kernel
theorem dX3_fill_67 : decode cX3_fill 67 = .ok (.iconst 0, 1) := by decide +kernel
theorem dX3_fill_68 : decode cX3_fill 68 = .ok (.iload 5, 2) := by decide +kernel
theorem dX3_fill_70 : decode cX3_fill 70 = .ok (.invokevirtual 105, 3) := by decide +kernel
theorem dX3_fill_73 : decode cX3_fill 73 = .ok (.istore 9, 2) := by decide +kernel
theorem dX3_fill_75 : decode cX3_fill 75 = .ok (.iload 9, 2) := by decide +kernel
theorem dX3_fill_77 : decode cX3_fill 77 = .ok (.ifCond .eq 10, 3) := by decide +kernel
theorem dX3_fill_80 : decode cX3_fill 80 = .ok (.aload_n 0, 1) := by decide +kernel
theorem dX3_fill_81 : decode cX3_fill 81 = .ok (.iload 9, 2) := by decide +kernel
theorem dX3_fill_83 : decode cX3_fill 83 = .ok (.invokevirtual 44, 3) := by decide +kernel
theorem dX3_fill_86 : decode cX3_fill 86 = .ok (.ireturn, 1) := by decide +kernel
theorem dX3_fill_87 : decode cX3_fill 87 = .ok (.iload 5, 2) := by decide +kernel
theorem dX3_fill_89 : decode cX3_fill 89 = .ok (.lload 6, 2) := by decide +kernel
theorem dX3_fill_91 : decode cX3_fill 91 = .ok (.invokestatic 108, 3) := by decide +kernel
theorem dX3_fill_94 : decode cX3_fill 94 = .ok (.iload 5, 2) := by decide +kernel
theorem dX3_fill_96 : decode cX3_fill 96 = .ok (.aload 8, 2) := by decide +kernel
theorem dX3_fill_98 : decode cX3_fill 98 = .ok (.getfield 73, 3) := by decide +kernel
theorem dX3_fill_101 : decode cX3_fill 101 = .ok (.invokestatic 99, 3) := by decide +kernel
theorem dX3_fill_104 : decode cX3_fill 104 = .ok (.lstore 10, 2) := by decide +kernel
theorem dX3_fill_106 : decode cX3_fill 106 = .ok (.iconst 0, 1) := by decide +kernel
theorem dX3_fill_107 : decode cX3_fill 107 = .ok (.istore 12, 2) := by decide +kernel
theorem dX3_fill_109 : decode cX3_fill 109 = .ok (.iload 12, 2) := by decide +kernel
theorem dX3_fill_111 : decode cX3_fill 111 = .ok (.aload 8, 2) := by decide +kernel
theorem dX3_fill_113 : decode cX3_fill 113 = .ok (.getfield 95, 3) := by decide +kernel
theorem dX3_fill_116 : decode cX3_fill 116 = .ok (.arraylength, 1) := by decide +kernel
theorem dX3_fill_117 : decode cX3_fill 117 = .ok (.if_icmp .ge 19, 3) := by decide +kernel
theorem dX3_fill_120 : decode cX3_fill 120 = .ok (.aload 8, 2) := by decide +kernel
theorem dX3_fill_122 : decode cX3_fill 122 = .ok (.getfield 95, 3) := by decide +kernel
theorem dX3_fill_125 : decode cX3_fill 125 = .ok (.iload 12, 2) := by decide +kernel
theorem dX3_fill_127 : decode cX3_fill 127 = .ok (.lload 10, 2) := by decide +kernel
theorem dX3_fill_129 : decode cX3_fill 129 = .ok (.lastore, 1) := by decide +kernel
theorem dX3_fill_130 : decode cX3_fill 130 = .ok (.iinc 12 1, 3) := by decide +kernel
theorem dX3_fill_133 : decode cX3_fill 133 = .ok (.goto (-24), 3) := by decide +kernel
theorem dX3_fill_136 : decode cX3_fill 136 = .ok (.aload 8, 2) := by decide +kernel
theorem dX3_fill_138 : decode cX3_fill 138 = .ok (.getfield 84, 3) := by decide +kernel
theorem dX3_fill_141 : decode cX3_fill 141 = .ok (.ireturn, 1) := by decide +kernel
set_option maxRecDepth 20000 in
theorem ggX3_pour_X3_isBox : GoodIn wsX3_pour wsX3_isBox := goodIn_r _ [7] (by decide +kernel) (by decide +kernel)
set_option maxRecDepth 20000 in
theorem gX3_pour_X3_isBox : GoodIn wsX3_pour (va_wsS RX3 37 yX3_isBox wsX3_isBox) := goodIn_app (goodIn_of _ (by decide +kernel)) ggX3_pour_X3_isBox
set_option maxRecDepth 20000 in
theorem ggX3_pour_X3_met : GoodIn wsX3_pour wsX3_met := goodIn_r _ [11, 12, 85, 86, 87, 88, 89, 90] (by decide +kernel) (by decide +kernel)
set_option maxRecDepth 20000 in
theorem gX3_pour_X3_met : GoodIn wsX3_pour (wsV RX3 44 RX3 yX3_met wsX3_met) := goodIn_app (goodIn_of _ (by decide +kernel)) ggX3_pour_X3_met
set_option maxRecDepth 20000 in
theorem ggX3_pour_X2_causeToPour : GoodIn wsX3_pour wsX2_causeToPour := goodIn_r _ [17, 18, 19, 20, 21, 22, 16, 23, 24, 25, 26, 27, 28, 29, 30, 31, 32, 33, 34, 35, 36, 37, 91, 92, 93, 94, 95] (by decide +kernel) (by decide +kernel)
set_option maxRecDepth 20000 in
theorem gX3_pour_X2_causeToPour : GoodIn wsX3_pour (wsV RX3 126 RX2 yX2_causeToPour wsX2_causeToPour) := goodIn_app (goodIn_of _ (by decide +kernel)) ggX3_pour_X2_causeToPour
set_option maxRecDepth 20000 in
theorem ggX3_pour_X2_pourIn : GoodIn wsX3_pour wsX2_pourIn := goodIn_r _ [41, 42, 19, 18, 20, 21, 22, 16, 23, 24, 43, 44, 36, 45, 46, 47, 48, 49, 50, 51, 52, 53, 54, 55, 56, 57, 58, 59, 60, 61, 62, 63, 64, 65, 66, 67, 68, 69, 70, 71, 72, 73, 74, 75, 76, 77, 78, 79, 80, 81, 82, 83, 84, 91, 92, 93, 94, 95] (by decide +kernel) (by decide +kernel)
set_option maxRecDepth 20000 in
theorem gX3_pour_X2_pourIn : GoodIn wsX3_pour (wsV RX3 129 RX2 yX2_pourIn wsX2_pourIn) := goodIn_app (goodIn_of _ (by decide +kernel)) ggX3_pour_X2_pourIn
theorem dX3_pour_0 : decode cX3_pour 0 = .ok (.iload_n 1, 1) := by decide +kernel
theorem dX3_pour_1 : decode cX3_pour 1 = .ok (.invokestatic 37, 3) := by decide +kernel
theorem dX3_pour_4 : decode cX3_pour 4 = .ok (.ifCond .eq 10, 3) := by decide +kernel
theorem dX3_pour_7 : decode cX3_pour 7 = .ok (.iload_n 2, 1) := by decide +kernel
theorem dX3_pour_8 : decode cX3_pour 8 = .ok (.invokestatic 37, 3) := by decide +kernel
theorem dX3_pour_11 : decode cX3_pour 11 = .ok (.ifCond .ne 5, 3) := by decide +kernel
theorem dX3_pour_14 : decode cX3_pour 14 = .ok (.iconst (-1), 1) := by decide +kernel
theorem dX3_pour_15 : decode cX3_pour 15 = .ok (.ireturn, 1) := by decide +kernel
theorem dX3_pour_16 : decode cX3_pour 16 = .ok (.aload_n 0, 1) := by decide +kernel
theorem dX3_pour_17 : decode cX3_pour 17 = .ok (.iconst 0, 1) := by decide +kernel
theorem dX3_pour_18 : decode cX3_pour 18 = .ok (.putfield 30, 3) := by decide +kernel
theorem dX3_pour_21 : decode cX3_pour 21 = .ok (.aload_n 0, 1) := by decide +kernel
theorem dX3_pour_22 : decode cX3_pour 22 = .ok (.getfield 11, 3) := by decide +kernel
theorem dX3_pour_25 : decode cX3_pour 25 = .ok (.iload_n 1, 1) := by decide +kernel
theorem dX3_pour_26 : decode cX3_pour 26 = .ok (.aaload, 1) := by decide +kernel
theorem dX3_pour_27 : decode cX3_pour 27 = .ok (.astore_n 3, 1) := by decide +kernel
theorem dX3_pour_28 : decode cX3_pour 28 = .ok (.aload_n 0, 1) := by decide +kernel
theorem dX3_pour_29 : decode cX3_pour 29 = .ok (.getfield 11, 3) := by decide +kernel
theorem dX3_pour_32 : decode cX3_pour 32 = .ok (.iload_n 2, 1) := by decide +kernel
theorem dX3_pour_33 : decode cX3_pour 33 = .ok (.aaload, 1) := by decide +kernel
theorem dX3_pour_34 : decode cX3_pour 34 = .ok (.astore 4, 2) := by decide +kernel
theorem dX3_pour_36 : decode cX3_pour 36 = .ok (.aload_n 3, 1) := by decide +kernel
theorem dX3_pour_37 : decode cX3_pour 37 = .ok (.ifnull 8, 3) := by decide +kernel
theorem dX3_pour_40 : decode cX3_pour 40 = .ok (.aload 4, 2) := by decide +kernel
theorem dX3_pour_42 : decode cX3_pour 42 = .ok (.ifnonnull 9, 3) := by decide +kernel
theorem dX3_pour_45 : decode cX3_pour 45 = .ok (.aload_n 0, 1) := by decide +kernel
theorem dX3_pour_46 : decode cX3_pour 46 = .ok (.iconst 1, 1) := by decide +kernel
theorem dX3_pour_47 : decode cX3_pour 47 = .ok (.invokevirtual 44, 3) := by decide +kernel
theorem dX3_pour_50 : decode cX3_pour 50 = .ok (.ireturn, 1) := by decide +kernel
theorem dX3_pour_51 : decode cX3_pour 51 = .ok (.iconst 0, 1) := by decide +kernel
theorem dX3_pour_52 : decode cX3_pour 52 = .ok (.istore 5, 2) := by decide +kernel
theorem dX3_pour_54 : decode cX3_pour 54 = .ok (.iload 5, 2) := by decide +kernel
theorem dX3_pour_56 : decode cX3_pour 56 = .ok (.aload_n 3, 1) := by decide +kernel
theorem dX3_pour_57 : decode cX3_pour 57 = .ok (.getfield 84, 3) := by decide +kernel
theorem dX3_pour_60 : decode cX3_pour 60 = .ok (.if_icmp .ge 49, 3) := by decide +kernel
theorem dX3_pour_63 : decode cX3_pour 63 = .ok (.aload 4, 2) := by decide +kernel
theorem dX3_pour_65 : decode cX3_pour 65 = .ok (.iload 5, 2) := by decide +kernel
theorem dX3_pour_67 : decode cX3_pour 67 = .ok (.aload_n 3, 1) := by decide +kernel
theorem dX3_pour_68 : decode cX3_pour 68 = .ok (.invokevirtual 126, 3) := by decide +kernel
theorem dX3_pour_71 : decode cX3_pour 71 = .ok (.istore 6, 2) := by decide +kernel
theorem dX3_pour_73 : decode cX3_pour 73 = .ok (.iload 6, 2) := by decide +kernel
theorem dX3_pour_75 : decode cX3_pour 75 = .ok (.ifCond .eq 10, 3) := by decide +kernel
theorem dX3_pour_78 : decode cX3_pour 78 = .ok (.aload_n 0, 1) := by decide +kernel
theorem dX3_pour_79 : decode cX3_pour 79 = .ok (.iload 6, 2) := by decide +kernel
theorem dX3_pour_81 : decode cX3_pour 81 = .ok (.invokevirtual 44, 3) := by decide +kernel
theorem dX3_pour_84 : decode cX3_pour 84 = .ok (.ireturn, 1) := by decide +kernel
theorem dX3_pour_85 : decode cX3_pour 85 = .ok (.aload 4, 2) := by decide +kernel
theorem dX3_pour_87 : decode cX3_pour 87 = .ok (.iload 5, 2) := by decide +kernel
theorem dX3_pour_89 : decode cX3_pour 89 = .ok (.aload_n 3, 1) := by decide +kernel
theorem dX3_pour_90 : decode cX3_pour 90 = .ok (.invokevirtual 129, 3) := by decide +kernel
theorem dX3_pour_93 : decode cX3_pour 93 = .ok (.aload_n 0, 1) := by decide +kernel
theorem dX3_pour_94 : decode cX3_pour 94 = .ok (.dup, 1) := by decide +kernel
theorem dX3_pour_95 : decode cX3_pour 95 = .ok (.getfield 30, 3) := by decide +kernel
theorem dX3_pour_98 : decode cX3_pour 98 = .ok (.iconst 1, 1) := by decide +kernel
theorem dX3_pour_99 : decode cX3_pour 99 = .ok (.iadd, 1) := by decide +kernel
theorem dX3_pour_100 : decode cX3_pour 100 = .ok (.putfield 30, 3) := by decide +kernel
theorem dX3_pour_103 : decode cX3_pour 103 = .ok (.iinc 5 1, 3) := by decide +kernel
theorem dX3_pour_106 : decode cX3_pour 106 = .ok (.goto (-52), 3) := by decide +kernel
theorem dX3_pour_109 : decode cX3_pour 109 = .ok (.aload_n 0, 1) := by decide +kernel
theorem dX3_pour_110 : decode cX3_pour 110 = .ok (.getfield 30, 3) := by decide +kernel
theorem dX3_pour_113 : decode cX3_pour 113 = .ok (.ireturn, 1) := by decide +kernel
theorem dX3_moved_0 : decode cX3_moved 0 = .ok (.aload_n 0, 1) := by decide +kernel
theorem dX3_moved_1 : decode cX3_moved 1 = .ok (.getfield 30, 3) := by decide +kernel
theorem dX3_moved_4 : decode cX3_moved 4 = .ok (.ireturn, 1) := by decide +kernel
set_option maxRecDepth 20000 in
theorem ggX3_total_X3_isBox : GoodIn wsX3_total wsX3_isBox := goodIn_r _ [8] (by decide +kernel) (by decide +kernel)
set_option maxRecDepth 20000 in
theorem gX3_total_X3_isBox : GoodIn wsX3_total (va_wsS RX3 37 yX3_isBox wsX3_isBox) := goodIn_app (goodIn_of _ (by decide +kernel)) ggX3_total_X3_isBox
set_option maxRecDepth 20000 in
theorem ggX3_total_X3_isSteps : GoodIn wsX3_total wsX3_isSteps := goodIn_r _ [11] (by decide +kernel) (by decide +kernel)
set_option maxRecDepth 20000 in
theorem gX3_total_X3_isSteps : GoodIn wsX3_total (va_wsS RX3 51 yX3_isSteps wsX3_isSteps) := goodIn_app (goodIn_of _ (by decide +kernel)) ggX3_total_X3_isSteps
set_option maxRecDepth 20000 in
theorem ggX3_total_X3_rowThere : GoodIn wsX3_total wsX3_rowThere := goodIn_r _ [15, 1, 2, 16, 17, 18, 19, 7, 20, 21, 22, 23, 24, 25, 26, 27, 28, 29, 30, 31, 32, 33, 34, 35, 36, 37, 38, 39, 40, 41, 42, 43, 44, 45, 46, 47, 48, 49, 50, 51, 52, 53, 54, 55, 56, 57, 75, 76, 77, 78, 79, 80, 81, 82, 83, 84, 85, 86, 87, 88, 89, 90] (by decide +kernel) (by decide +kernel)
set_option maxRecDepth 20000 in
theorem gX3_total_X3_rowThere : GoodIn wsX3_total (wsV RX3 77 RX3 yX3_rowThere wsX3_rowThere) := goodIn_app (goodIn_of _ (by decide +kernel)) ggX3_total_X3_rowThere
set_option maxRecDepth 20000 in
theorem ggX3_total_X3_met : GoodIn wsX3_total wsX3_met := goodIn_r _ [61, 62, 75, 76, 77, 78, 79, 80] (by decide +kernel) (by decide +kernel)
set_option maxRecDepth 20000 in
theorem gX3_total_X3_met : GoodIn wsX3_total (wsV RX3 44 RX3 yX3_met wsX3_met) := goodIn_app (goodIn_of _ (by decide +kernel)) ggX3_total_X3_met
set_option maxRecDepth 20000 in
theorem ggX3_total_X1_goesInto : GoodIn wsX3_total wsX1_goesInto := goodIn_r _ [66] (by decide +kernel) (by decide +kernel)
set_option maxRecDepth 20000 in
theorem gX3_total_X1_goesInto : GoodIn wsX3_total (va_wsS RX3 133 yX1_goesInto wsX1_goesInto) := goodIn_app (goodIn_of _ (by decide +kernel)) ggX3_total_X1_goesInto
set_option maxRecDepth 20000 in
theorem ggX3_total_X3_numbersIn : GoodIn wsX3_total wsX3_numbersIn := goodIn_r _ [69, 70, 71, 67, 68, 7, 86, 87, 88, 89, 90] (by decide +kernel) (by decide +kernel)
set_option maxRecDepth 20000 in
theorem gX3_total_X3_numbersIn : GoodIn wsX3_total (va_wsS RX3 137 yX3_numbersIn wsX3_numbersIn) := goodIn_app (goodIn_of _ (by decide +kernel)) ggX3_total_X3_numbersIn
set_option maxRecDepth 20000 in
theorem ggX3_total_X3_sumOf : GoodIn wsX3_total wsX3_sumOf := goodIn_r _ [74, 70, 71, 72, 73, 7, 86, 87, 88, 89, 90] (by decide +kernel) (by decide +kernel)
set_option maxRecDepth 20000 in
theorem gX3_total_X3_sumOf : GoodIn wsX3_total (va_wsS RX3 141 yX3_sumOf wsX3_sumOf) := goodIn_app (goodIn_of _ (by decide +kernel)) ggX3_total_X3_sumOf
theorem dX3_total_0 : decode cX3_total 0 = .ok (.iload_n 1, 1) := by decide +kernel
theorem dX3_total_1 : decode cX3_total 1 = .ok (.invokestatic 37, 3) := by decide +kernel
theorem dX3_total_4 : decode cX3_total 4 = .ok (.ifCond .eq 12, 3) := by decide +kernel
theorem dX3_total_7 : decode cX3_total 7 = .ok (.iload_n 2, 1) := by decide +kernel
theorem dX3_total_8 : decode cX3_total 8 = .ok (.iconst 0, 1) := by decide +kernel
theorem dX3_total_9 : decode cX3_total 9 = .ok (.iconst 2, 1) := by decide +kernel
theorem dX3_total_10 : decode cX3_total 10 = .ok (.invokestatic 51, 3) := by decide +kernel
theorem dX3_total_13 : decode cX3_total 13 = .ok (.ifCond .ne 5, 3) := by decide +kernel
theorem dX3_total_16 : decode cX3_total 16 = .ok (.iconst (-1), 1) := by decide +kernel
theorem dX3_total_17 : decode cX3_total 17 = .ok (.ireturn, 1) := by decide +kernel
theorem dX3_total_18 : decode cX3_total 18 = .ok (.aload_n 0, 1) := by decide +kernel
theorem dX3_total_19 : decode cX3_total 19 = .ok (.iload_n 1, 1) := by decide +kernel
theorem dX3_total_20 : decode cX3_total 20 = .ok (.iload_n 2, 1) := by decide +kernel
theorem dX3_total_21 : decode cX3_total 21 = .ok (.iload_n 3, 1) := by decide +kernel
theorem dX3_total_22 : decode cX3_total 22 = .ok (.iload 4, 2) := by decide +kernel
theorem dX3_total_24 : decode cX3_total 24 = .ok (.iconst 0, 1) := by decide +kernel
theorem dX3_total_25 : decode cX3_total 25 = .ok (.invokevirtual 77, 3) := by decide +kernel
theorem dX3_total_28 : decode cX3_total 28 = .ok (.astore 5, 2) := by decide +kernel
theorem dX3_total_30 : decode cX3_total 30 = .ok (.aload 5, 2) := by decide +kernel
theorem dX3_total_32 : decode cX3_total 32 = .ok (.ifnonnull 15, 3) := by decide +kernel
theorem dX3_total_35 : decode cX3_total 35 = .ok (.aload_n 0, 1) := by decide +kernel
theorem dX3_total_36 : decode cX3_total 36 = .ok (.aload_n 0, 1) := by decide +kernel
theorem dX3_total_37 : decode cX3_total 37 = .ok (.getfield 22, 3) := by decide +kernel
theorem dX3_total_40 : decode cX3_total 40 = .ok (.getfield 81, 3) := by decide +kernel
theorem dX3_total_43 : decode cX3_total 43 = .ok (.invokevirtual 44, 3) := by decide +kernel
theorem dX3_total_46 : decode cX3_total 46 = .ok (.ireturn, 1) := by decide +kernel
theorem dX3_total_47 : decode cX3_total 47 = .ok (.aload 5, 2) := by decide +kernel
theorem dX3_total_49 : decode cX3_total 49 = .ok (.getfield 73, 3) := by decide +kernel
theorem dX3_total_52 : decode cX3_total 52 = .ok (.iconst 5, 1) := by decide +kernel
theorem dX3_total_53 : decode cX3_total 53 = .ok (.invokestatic 133, 3) := by decide +kernel
theorem dX3_total_56 : decode cX3_total 56 = .ok (.ifCond .ne 18, 3) := by decide +kernel
theorem dX3_total_59 : decode cX3_total 59 = .ok (.aload 5, 2) := by decide +kernel
theorem dX3_total_61 : decode cX3_total 61 = .ok (.iconst 3, 1) := by decide +kernel
theorem dX3_total_62 : decode cX3_total 62 = .ok (.invokestatic 137, 3) := by decide +kernel
theorem dX3_total_65 : decode cX3_total 65 = .ok (.ifCond .le 9, 3) := by decide +kernel
theorem dX3_total_68 : decode cX3_total 68 = .ok (.aload_n 0, 1) := by decide +kernel
theorem dX3_total_69 : decode cX3_total 69 = .ok (.iconst 4, 1) := by decide +kernel
theorem dX3_total_70 : decode cX3_total 70 = .ok (.invokevirtual 44, 3) := by decide +kernel
theorem dX3_total_73 : decode cX3_total 73 = .ok (.ireturn, 1) := by decide +kernel
theorem dX3_total_74 : decode cX3_total 74 = .ok (.aload_n 0, 1) := by decide +kernel
theorem dX3_total_75 : decode cX3_total 75 = .ok (.aload 5, 2) := by decide +kernel
theorem dX3_total_77 : decode cX3_total 77 = .ok (.iconst 3, 1) := by decide +kernel
theorem dX3_total_78 : decode cX3_total 78 = .ok (.invokestatic 141, 3) := by decide +kernel
theorem dX3_total_81 : decode cX3_total 81 = .ok (.putfield 33, 3) := by decide +kernel
theorem dX3_total_84 : decode cX3_total 84 = .ok (.iconst 1, 1) := by decide +kernel
theorem dX3_total_85 : decode cX3_total 85 = .ok (.ireturn, 1) := by decide +kernel
set_option maxRecDepth 20000 in
theorem ggX3_count_X3_isBox : GoodIn wsX3_count wsX3_isBox := goodIn_r _ [6] (by decide +kernel) (by decide +kernel)
set_option maxRecDepth 20000 in
theorem gX3_count_X3_isBox : GoodIn wsX3_count (va_wsS RX3 37 yX3_isBox wsX3_isBox) := goodIn_app (goodIn_of _ (by decide +kernel)) ggX3_count_X3_isBox
set_option maxRecDepth 20000 in
theorem ggX3_count_X3_isSteps : GoodIn wsX3_count wsX3_isSteps := goodIn_r _ [9] (by decide +kernel) (by decide +kernel)
set_option maxRecDepth 20000 in
theorem gX3_count_X3_isSteps : GoodIn wsX3_count (va_wsS RX3 51 yX3_isSteps wsX3_isSteps) := goodIn_app (goodIn_of _ (by decide +kernel)) ggX3_count_X3_isSteps
set_option maxRecDepth 20000 in
theorem ggX3_count_X3_rowThere : GoodIn wsX3_count wsX3_rowThere := goodIn_r _ [13, 1, 2, 14, 15, 16, 17, 5, 18, 19, 20, 21, 22, 23, 24, 25, 26, 27, 28, 29, 30, 31, 32, 33, 34, 35, 36, 37, 38, 39, 40, 41, 42, 43, 44, 45, 46, 47, 48, 49, 50, 51, 52, 53, 54, 55, 66, 67, 68, 69, 70, 71, 72, 73, 74, 75, 76, 77, 78, 79, 80, 81] (by decide +kernel) (by decide +kernel)
set_option maxRecDepth 20000 in
theorem gX3_count_X3_rowThere : GoodIn wsX3_count (wsV RX3 77 RX3 yX3_rowThere wsX3_rowThere) := goodIn_app (goodIn_of _ (by decide +kernel)) ggX3_count_X3_rowThere
set_option maxRecDepth 20000 in
theorem ggX3_count_X3_met : GoodIn wsX3_count wsX3_met := goodIn_r _ [59, 60, 66, 67, 68, 69, 70, 71] (by decide +kernel) (by decide +kernel)
set_option maxRecDepth 20000 in
theorem gX3_count_X3_met : GoodIn wsX3_count (wsV RX3 44 RX3 yX3_met wsX3_met) := goodIn_app (goodIn_of _ (by decide +kernel)) ggX3_count_X3_met
set_option maxRecDepth 20000 in
theorem ggX3_count_X3_numbersIn : GoodIn wsX3_count wsX3_numbersIn := goodIn_r _ [63, 64, 65, 61, 62, 5, 77, 78, 79, 80, 81] (by decide +kernel) (by decide +kernel)
set_option maxRecDepth 20000 in
theorem gX3_count_X3_numbersIn : GoodIn wsX3_count (va_wsS RX3 137 yX3_numbersIn wsX3_numbersIn) := goodIn_app (goodIn_of _ (by decide +kernel)) ggX3_count_X3_numbersIn
theorem dX3_count_0 : decode cX3_count 0 = .ok (.iload_n 1, 1) := by decide +kernel
theorem dX3_count_1 : decode cX3_count 1 = .ok (.invokestatic 37, 3) := by decide +kernel
theorem dX3_count_4 : decode cX3_count 4 = .ok (.ifCond .eq 12, 3) := by decide +kernel
theorem dX3_count_7 : decode cX3_count 7 = .ok (.iload_n 2, 1) := by decide +kernel
theorem dX3_count_8 : decode cX3_count 8 = .ok (.iconst 0, 1) := by decide +kernel
theorem dX3_count_9 : decode cX3_count 9 = .ok (.iconst 2, 1) := by decide +kernel
theorem dX3_count_10 : decode cX3_count 10 = .ok (.invokestatic 51, 3) := by decide +kernel
theorem dX3_count_13 : decode cX3_count 13 = .ok (.ifCond .ne 5, 3) := by decide +kernel
theorem dX3_count_16 : decode cX3_count 16 = .ok (.iconst (-1), 1) := by decide +kernel
theorem dX3_count_17 : decode cX3_count 17 = .ok (.ireturn, 1) := by decide +kernel
theorem dX3_count_18 : decode cX3_count 18 = .ok (.aload_n 0, 1) := by decide +kernel
theorem dX3_count_19 : decode cX3_count 19 = .ok (.iload_n 1, 1) := by decide +kernel
theorem dX3_count_20 : decode cX3_count 20 = .ok (.iload_n 2, 1) := by decide +kernel
theorem dX3_count_21 : decode cX3_count 21 = .ok (.iload_n 3, 1) := by decide +kernel
theorem dX3_count_22 : decode cX3_count 22 = .ok (.iload 4, 2) := by decide +kernel
theorem dX3_count_24 : decode cX3_count 24 = .ok (.iconst 0, 1) := by decide +kernel
theorem dX3_count_25 : decode cX3_count 25 = .ok (.invokevirtual 77, 3) := by decide +kernel
theorem dX3_count_28 : decode cX3_count 28 = .ok (.astore 5, 2) := by decide +kernel
theorem dX3_count_30 : decode cX3_count 30 = .ok (.aload 5, 2) := by decide +kernel
theorem dX3_count_32 : decode cX3_count 32 = .ok (.ifnonnull 17, 3) := by decide +kernel
theorem dX3_count_35 : decode cX3_count 35 = .ok (.aload_n 0, 1) := by decide +kernel
theorem dX3_count_36 : decode cX3_count 36 = .ok (.aload_n 0, 1) := by decide +kernel
theorem dX3_count_37 : decode cX3_count 37 = .ok (.getfield 22, 3) := by decide +kernel
theorem dX3_count_40 : decode cX3_count 40 = .ok (.getfield 81, 3) := by decide +kernel
theorem dX3_count_43 : decode cX3_count 43 = .ok (.invokevirtual 44, 3) := by decide +kernel
theorem dX3_count_46 : decode cX3_count 46 = .ok (.goto 9, 3) := by decide +kernel
theorem dX3_count_49 : decode cX3_count 49 = .ok (.aload 5, 2) := by decide +kernel
theorem dX3_count_51 : decode cX3_count 51 = .ok (.iconst 3, 1) := by decide +kernel
theorem dX3_count_52 : decode cX3_count 52 = .ok (.invokestatic 137, 3) := by decide +kernel
theorem dX3_count_55 : decode cX3_count 55 = .ok (.ireturn, 1) := by decide +kernel
theorem dX3_seen_0 : decode cX3_seen 0 = .ok (.aload_n 0, 1) := by decide +kernel
theorem dX3_seen_1 : decode cX3_seen 1 = .ok (.getfield 33, 3) := by decide +kernel
theorem dX3_seen_4 : decode cX3_seen 4 = .ok (.lreturn, 1) := by decide +kernel
set_option maxRecDepth 20000 in
theorem ggX3_about_X3_boxesInUse : GoodIn wsX3_about wsX3_boxesInUse := goodIn_r _ [7, 8, 9, 10, 11, 12, 13, 14] (by decide +kernel) (by decide +kernel)
set_option maxRecDepth 20000 in
theorem gX3_about_X3_boxesInUse : GoodIn wsX3_about (wsV RX3 145 RX3 yX3_boxesInUse wsX3_boxesInUse) := goodIn_app (goodIn_of _ (by decide +kernel)) ggX3_about_X3_boxesInUse
theorem dX3_about_0 : decode cX3_about 0 = .ok (.iload_n 1, 1) := by decide +kernel
theorem dX3_about_1 : decode cX3_about 1 = .ok (.ifCond .lt 9, 3) := by decide +kernel
theorem dX3_about_4 : decode cX3_about 4 = .ok (.iload_n 1, 1) := by decide +kernel
theorem dX3_about_5 : decode cX3_about 5 = .ok (.bipush 6, 2) := by decide +kernel
theorem dX3_about_7 : decode cX3_about 7 = .ok (.if_icmp .le 5, 3) := by decide +kernel
theorem dX3_about_10 : decode cX3_about 10 = .ok (.iconst (-1), 1) := by decide +kernel
theorem dX3_about_11 : decode cX3_about 11 = .ok (.ireturn, 1) := by decide +kernel
theorem dX3_about_12 : decode cX3_about 12 = .ok (.iload_n 1, 1) := by decide +kernel
theorem dX3_about_13 : decode cX3_about 13 = .ok (.ifCond .ne 8, 3) := by decide +kernel
theorem dX3_about_16 : decode cX3_about 16 = .ok (.aload_n 0, 1) := by decide +kernel
theorem dX3_about_17 : decode cX3_about 17 = .ok (.getfield 26, 3) := by decide +kernel
theorem dX3_about_20 : decode cX3_about 20 = .ok (.ireturn, 1) := by decide +kernel
theorem dX3_about_21 : decode cX3_about 21 = .ok (.iload_n 1, 1) := by decide +kernel
theorem dX3_about_22 : decode cX3_about 22 = .ok (.bipush 6, 2) := by decide +kernel
theorem dX3_about_24 : decode cX3_about 24 = .ok (.if_icmp .ne 10, 3) := by decide +kernel
theorem dX3_about_27 : decode cX3_about 27 = .ok (.aload_n 0, 1) := by decide +kernel
theorem dX3_about_28 : decode cX3_about 28 = .ok (.invokevirtual 145, 3) := by decide +kernel
theorem dX3_about_31 : decode cX3_about 31 = .ok (.goto 9, 3) := by decide +kernel
theorem dX3_about_34 : decode cX3_about 34 = .ok (.aload_n 0, 1) := by decide +kernel
theorem dX3_about_35 : decode cX3_about 35 = .ok (.getfield 15, 3) := by decide +kernel
theorem dX3_about_38 : decode cX3_about 38 = .ok (.iload_n 1, 1) := by decide +kernel
theorem dX3_about_39 : decode cX3_about 39 = .ok (.iaload, 1) := by decide +kernel
theorem dX3_about_40 : decode cX3_about 40 = .ok (.ireturn, 1) := by decide +kernel
theorem dX3_boxesInUse_0 : decode cX3_boxesInUse 0 = .ok (.iconst 0, 1) := by decide +kernel
theorem dX3_boxesInUse_1 : decode cX3_boxesInUse 1 = .ok (.istore_n 1, 1) := by decide +kernel
theorem dX3_boxesInUse_2 : decode cX3_boxesInUse 2 = .ok (.iconst 0, 1) := by decide +kernel
theorem dX3_boxesInUse_3 : decode cX3_boxesInUse 3 = .ok (.istore_n 2, 1) := by decide +kernel
theorem dX3_boxesInUse_4 : decode cX3_boxesInUse 4 = .ok (.iload_n 2, 1) := by decide +kernel
theorem dX3_boxesInUse_5 : decode cX3_boxesInUse 5 = .ok (.bipush 10, 2) := by decide +kernel
theorem dX3_boxesInUse_7 : decode cX3_boxesInUse 7 = .ok (.if_icmp .ge 21, 3) := by decide +kernel
theorem dX3_boxesInUse_10 : decode cX3_boxesInUse 10 = .ok (.aload_n 0, 1) := by decide +kernel
theorem dX3_boxesInUse_11 : decode cX3_boxesInUse 11 = .ok (.getfield 11, 3) := by decide +kernel
theorem dX3_boxesInUse_14 : decode cX3_boxesInUse 14 = .ok (.iload_n 2, 1) := by decide +kernel
theorem dX3_boxesInUse_15 : decode cX3_boxesInUse 15 = .ok (.aaload, 1) := by decide +kernel
theorem dX3_boxesInUse_16 : decode cX3_boxesInUse 16 = .ok (.ifnull 6, 3) := by decide +kernel
theorem dX3_boxesInUse_19 : decode cX3_boxesInUse 19 = .ok (.iinc 1 1, 3) := by decide +kernel
theorem dX3_boxesInUse_22 : decode cX3_boxesInUse 22 = .ok (.iinc 2 1, 3) := by decide +kernel
theorem dX3_boxesInUse_25 : decode cX3_boxesInUse 25 = .ok (.goto (-21), 3) := by decide +kernel
theorem dX3_boxesInUse_28 : decode cX3_boxesInUse 28 = .ok (.iload_n 1, 1) := by decide +kernel
theorem dX3_boxesInUse_29 : decode cX3_boxesInUse 29 = .ok (.ireturn, 1) := by decide +kernel
theorem dX3_met_0 : decode cX3_met 0 = .ok (.aload_n 0, 1) := by decide +kernel
theorem dX3_met_1 : decode cX3_met 1 = .ok (.getfield 15, 3) := by decide +kernel
theorem dX3_met_4 : decode cX3_met 4 = .ok (.iload_n 1, 1) := by decide +kernel
theorem dX3_met_5 : decode cX3_met 5 = .ok (.dup2, 1) := by decide +kernel
theorem dX3_met_6 : decode cX3_met 6 = .ok (.iaload, 1) := by decide +kernel
theorem dX3_met_7 : decode cX3_met 7 = .ok (.iconst 1, 1) := by decide +kernel
theorem dX3_met_8 : decode cX3_met 8 = .ok (.iadd, 1) := by decide +kernel
theorem dX3_met_9 : decode cX3_met 9 = .ok (.iastore, 1) := by decide +kernel
theorem dX3_met_10 : decode cX3_met 10 = .ok (.bipush (-10), 2) := by decide +kernel
theorem dX3_met_12 : decode cX3_met 12 = .ok (.iload_n 1, 1) := by decide +kernel
theorem dX3_met_13 : decode cX3_met 13 = .ok (.isub, 1) := by decide +kernel
theorem dX3_met_14 : decode cX3_met 14 = .ok (.ireturn, 1) := by decide +kernel
theorem dX3_isBox_0 : decode cX3_isBox 0 = .ok (.iload_n 0, 1) := by decide +kernel
theorem dX3_isBox_1 : decode cX3_isBox 1 = .ok (.ifCond .lt 13, 3) := by decide +kernel
theorem dX3_isBox_4 : decode cX3_isBox 4 = .ok (.iload_n 0, 1) := by decide +kernel
theorem dX3_isBox_5 : decode cX3_isBox 5 = .ok (.bipush 10, 2) := by decide +kernel
theorem dX3_isBox_7 : decode cX3_isBox 7 = .ok (.if_icmp .ge 7, 3) := by decide +kernel
theorem dX3_isBox_10 : decode cX3_isBox 10 = .ok (.iconst 1, 1) := by decide +kernel
theorem dX3_isBox_11 : decode cX3_isBox 11 = .ok (.goto 4, 3) := by decide +kernel
theorem dX3_isBox_14 : decode cX3_isBox 14 = .ok (.iconst 0, 1) := by decide +kernel
theorem dX3_isBox_15 : decode cX3_isBox 15 = .ok (.ireturn, 1) := by decide +kernel
theorem dX3_isKind_0 : decode cX3_isKind 0 = .ok (.iload_n 0, 1) := by decide +kernel
theorem dX3_isKind_1 : decode cX3_isKind 1 = .ok (.ifCond .lt 13, 3) := by decide +kernel
theorem dX3_isKind_4 : decode cX3_isKind 4 = .ok (.iload_n 0, 1) := by decide +kernel
theorem dX3_isKind_5 : decode cX3_isKind 5 = .ok (.bipush 7, 2) := by decide +kernel
theorem dX3_isKind_7 : decode cX3_isKind 7 = .ok (.if_icmp .gt 7, 3) := by decide +kernel
theorem dX3_isKind_10 : decode cX3_isKind 10 = .ok (.iconst 1, 1) := by decide +kernel
theorem dX3_isKind_11 : decode cX3_isKind 11 = .ok (.goto 4, 3) := by decide +kernel
theorem dX3_isKind_14 : decode cX3_isKind 14 = .ok (.iconst 0, 1) := by decide +kernel
theorem dX3_isKind_15 : decode cX3_isKind 15 = .ok (.ireturn, 1) := by decide +kernel
theorem dX3_isSteps_0 : decode cX3_isSteps 0 = .ok (.iload_n 0, 1) := by decide +kernel
theorem dX3_isSteps_1 : decode cX3_isSteps 1 = .ok (.iload_n 1, 1) := by decide +kernel
theorem dX3_isSteps_2 : decode cX3_isSteps 2 = .ok (.if_icmp .lt 12, 3) := by decide +kernel
theorem dX3_isSteps_5 : decode cX3_isSteps 5 = .ok (.iload_n 0, 1) := by decide +kernel
theorem dX3_isSteps_6 : decode cX3_isSteps 6 = .ok (.iload_n 2, 1) := by decide +kernel
theorem dX3_isSteps_7 : decode cX3_isSteps 7 = .ok (.if_icmp .gt 7, 3) := by decide +kernel
theorem dX3_isSteps_10 : decode cX3_isSteps 10 = .ok (.iconst 1, 1) := by decide +kernel
theorem dX3_isSteps_11 : decode cX3_isSteps 11 = .ok (.goto 4, 3) := by decide +kernel
theorem dX3_isSteps_14 : decode cX3_isSteps 14 = .ok (.iconst 0, 1) := by decide +kernel
theorem dX3_isSteps_15 : decode cX3_isSteps 15 = .ok (.ireturn, 1) := by decide +kernel
theorem dX3_placeOfStep_0 : decode cX3_placeOfStep 0 = .ok (.iload_n 0, 1) := by decide +kernel
theorem dX3_placeOfStep_1 : decode cX3_placeOfStep 1 = .ok (.iconst 1, 1) := by decide +kernel
theorem dX3_placeOfStep_2 : decode cX3_placeOfStep 2 = .ok (.if_icmp .ne 5, 3) := by decide +kernel
theorem dX3_placeOfStep_5 : decode cX3_placeOfStep 5 = .ok (.iload_n 1, 1) := by decide +kernel
theorem dX3_placeOfStep_6 : decode cX3_placeOfStep 6 = .ok (.ireturn, 1) := by decide +kernel
theorem dX3_placeOfStep_7 : decode cX3_placeOfStep 7 = .ok (.iload_n 0, 1) := by decide +kernel
theorem dX3_placeOfStep_8 : decode cX3_placeOfStep 8 = .ok (.iconst 2, 1) := by decide +kernel
theorem dX3_placeOfStep_9 : decode cX3_placeOfStep 9 = .ok (.if_icmp .ne 7, 3) := by decide +kernel
theorem dX3_placeOfStep_12 : decode cX3_placeOfStep 12 = .ok (.iload_n 2, 1) := by decide +kernel
theorem dX3_placeOfStep_13 : decode cX3_placeOfStep 13 = .ok (.goto 4, 3) := by decide +kernel
theorem dX3_placeOfStep_16 : decode cX3_placeOfStep 16 = .ok (.iload_n 3, 1) := by decide +kernel
theorem dX3_placeOfStep_17 : decode cX3_placeOfStep 17 = .ok (.ireturn, 1) := by decide +kernel
set_option maxRecDepth 20000 in
theorem ggX3_walk_X0_startAt : GoodIn wsX3_walk wsX0_startAt := goodIn_r _ [8, 9, 10, 11, 46, 47, 48, 49, 50] (by decide +kernel) (by decide +kernel)
set_option maxRecDepth 20000 in
theorem gX3_walk_X0_startAt : GoodIn wsX3_walk (wsV RX3 149 RX0 yX0_startAt wsX0_startAt) := goodIn_app (goodIn_of _ (by decide +kernel)) ggX3_walk_X0_startAt
set_option maxRecDepth 20000 in
theorem ggX3_walk_X3_placeOfStep : GoodIn wsX3_walk wsX3_placeOfStep := goodIn_r _ [15] (by decide +kernel) (by decide +kernel)
set_option maxRecDepth 20000 in
theorem gX3_walk_X3_placeOfStep : GoodIn wsX3_walk (va_wsS RX3 87 yX3_placeOfStep wsX3_placeOfStep) := goodIn_app (goodIn_of _ (by decide +kernel)) ggX3_walk_X3_placeOfStep
set_option maxRecDepth 20000 in
theorem ggX3_walk_X0_stepTo : GoodIn wsX3_walk wsX0_stepTo := goodIn_r _ [19, 9, 11, 10, 20, 21, 22, 23, 24, 25, 26, 27, 7, 28, 29, 30, 31, 32, 33, 34, 35, 36, 37, 38, 39, 46, 47, 48, 49, 50, 51, 52, 53, 54, 55] (by decide +kernel) (by decide +kernel)
set_option maxRecDepth 20000 in
theorem gX3_walk_X0_stepTo : GoodIn wsX3_walk (wsV RX3 153 RX0 yX0_stepTo wsX0_stepTo) := goodIn_app (goodIn_of _ (by decide +kernel)) ggX3_walk_X0_stepTo
theorem dX3_walk_0 : decode cX3_walk 0 = .ok (.aload_n 0, 1) := by decide +kernel
theorem dX3_walk_1 : decode cX3_walk 1 = .ok (.getfield 22, 3) := by decide +kernel
theorem dX3_walk_4 : decode cX3_walk 4 = .ok (.aload_n 0, 1) := by decide +kernel
theorem dX3_walk_5 : decode cX3_walk 5 = .ok (.getfield 11, 3) := by decide +kernel
theorem dX3_walk_8 : decode cX3_walk 8 = .ok (.iload_n 1, 1) := by decide +kernel
theorem dX3_walk_9 : decode cX3_walk 9 = .ok (.aaload, 1) := by decide +kernel
theorem dX3_walk_10 : decode cX3_walk 10 = .ok (.invokevirtual 149, 3) := by decide +kernel
theorem dX3_walk_13 : decode cX3_walk 13 = .ok (.iconst 1, 1) := by decide +kernel
theorem dX3_walk_14 : decode cX3_walk 14 = .ok (.istore 6, 2) := by decide +kernel
theorem dX3_walk_16 : decode cX3_walk 16 = .ok (.iload 6, 2) := by decide +kernel
theorem dX3_walk_18 : decode cX3_walk 18 = .ok (.iload_n 2, 1) := by decide +kernel
theorem dX3_walk_19 : decode cX3_walk 19 = .ok (.if_icmp .gt 36, 3) := by decide +kernel
theorem dX3_walk_22 : decode cX3_walk 22 = .ok (.aload_n 0, 1) := by decide +kernel
theorem dX3_walk_23 : decode cX3_walk 23 = .ok (.getfield 22, 3) := by decide +kernel
theorem dX3_walk_26 : decode cX3_walk 26 = .ok (.getfield 81, 3) := by decide +kernel
theorem dX3_walk_29 : decode cX3_walk 29 = .ok (.ifCond .ne 26, 3) := by decide +kernel
theorem dX3_walk_32 : decode cX3_walk 32 = .ok (.aload_n 0, 1) := by decide +kernel
theorem dX3_walk_33 : decode cX3_walk 33 = .ok (.getfield 22, 3) := by decide +kernel
theorem dX3_walk_36 : decode cX3_walk 36 = .ok (.iload 6, 2) := by decide +kernel
theorem dX3_walk_38 : decode cX3_walk 38 = .ok (.iload_n 3, 1) := by decide +kernel
theorem dX3_walk_39 : decode cX3_walk 39 = .ok (.iload 4, 2) := by decide +kernel
theorem dX3_walk_41 : decode cX3_walk 41 = .ok (.iload 5, 2) := by decide +kernel
theorem dX3_walk_43 : decode cX3_walk 43 = .ok (.invokestatic 87, 3) := by decide +kernel
theorem dX3_walk_46 : decode cX3_walk 46 = .ok (.invokevirtual 153, 3) := by decide +kernel
theorem dX3_walk_49 : decode cX3_walk 49 = .ok (.iinc 6 1, 3) := by decide +kernel
theorem dX3_walk_52 : decode cX3_walk 52 = .ok (.goto (-36), 3) := by decide +kernel
theorem dX3_walk_55 : decode cX3_walk 55 = .ok (.aload_n 0, 1) := by decide +kernel
theorem dX3_walk_56 : decode cX3_walk 56 = .ok (.getfield 22, 3) := by decide +kernel
theorem dX3_walk_59 : decode cX3_walk 59 = .ok (.getfield 81, 3) := by decide +kernel
theorem dX3_walk_62 : decode cX3_walk 62 = .ok (.ireturn, 1) := by decide +kernel
set_option maxRecDepth 20000 in
theorem ggX3_rowThere_X3_walk : GoodIn wsX3_rowThere wsX3_walk := goodIn_r _ [8, 1, 9, 2, 10, 11, 12, 13, 14, 15, 16, 17, 18, 19, 7, 20, 21, 22, 23, 24, 25, 26, 27, 28, 29, 30, 31, 32, 33, 34, 35, 36, 37, 38, 39, 40, 41, 42, 43, 44, 46, 47, 48, 49, 50, 51, 52, 53, 54, 55, 56, 57, 58, 59, 60, 61] (by decide +kernel) (by decide +kernel)
set_option maxRecDepth 20000 in
theorem gX3_rowThere_X3_walk : GoodIn wsX3_rowThere (wsV RX3 55 RX3 yX3_walk wsX3_walk) := goodIn_app (goodIn_of _ (by decide +kernel)) ggX3_rowThere_X3_walk
set_option maxRecDepth 20000 in
theorem ggX3_rowThere_X0_wantRow : GoodIn wsX3_rowThere wsX0_wantRow := goodIn_r _ [33, 17, 15, 16, 52, 53, 54, 55, 56] (by decide +kernel) (by decide +kernel)
set_option maxRecDepth 20000 in
theorem gX3_rowThere_X0_wantRow : GoodIn wsX3_rowThere (wsV RX3 157 RX0 yX0_wantRow wsX0_wantRow) := goodIn_app (goodIn_of _ (by decide +kernel)) ggX3_rowThere_X0_wantRow
theorem dX3_rowThere_0 : decode cX3_rowThere 0 = .ok (.aload_n 0, 1) := by decide +kernel
theorem dX3_rowThere_1 : decode cX3_rowThere 1 = .ok (.iload_n 1, 1) := by decide +kernel
theorem dX3_rowThere_2 : decode cX3_rowThere 2 = .ok (.iload_n 2, 1) := by decide +kernel
theorem dX3_rowThere_3 : decode cX3_rowThere 3 = .ok (.iload_n 3, 1) := by decide +kernel
theorem dX3_rowThere_4 : decode cX3_rowThere 4 = .ok (.iload 4, 2) := by decide +kernel
theorem dX3_rowThere_6 : decode cX3_rowThere 6 = .ok (.iload 5, 2) := by decide +kernel
theorem dX3_rowThere_8 : decode cX3_rowThere 8 = .ok (.invokevirtual 55, 3) := by decide +kernel
theorem dX3_rowThere_11 : decode cX3_rowThere 11 = .ok (.pop, 1) := by decide +kernel
theorem dX3_rowThere_12 : decode cX3_rowThere 12 = .ok (.aload_n 0, 1) := by decide +kernel
theorem dX3_rowThere_13 : decode cX3_rowThere 13 = .ok (.getfield 22, 3) := by decide +kernel
theorem dX3_rowThere_16 : decode cX3_rowThere 16 = .ok (.invokevirtual 157, 3) := by decide +kernel
theorem dX3_rowThere_19 : decode cX3_rowThere 19 = .ok (.aload_n 0, 1) := by decide +kernel
theorem dX3_rowThere_20 : decode cX3_rowThere 20 = .ok (.getfield 22, 3) := by decide +kernel
theorem dX3_rowThere_23 : decode cX3_rowThere 23 = .ok (.getfield 81, 3) := by decide +kernel
theorem dX3_rowThere_26 : decode cX3_rowThere 26 = .ok (.ifCond .ne 13, 3) := by decide +kernel
theorem dX3_rowThere_29 : decode cX3_rowThere 29 = .ok (.aload_n 0, 1) := by decide +kernel
theorem dX3_rowThere_30 : decode cX3_rowThere 30 = .ok (.getfield 22, 3) := by decide +kernel
theorem dX3_rowThere_33 : decode cX3_rowThere 33 = .ok (.getfield 69, 3) := by decide +kernel
theorem dX3_rowThere_36 : decode cX3_rowThere 36 = .ok (.goto 4, 3) := by decide +kernel
theorem dX3_rowThere_39 : decode cX3_rowThere 39 = .ok (.aconst_null, 1) := by decide +kernel
theorem dX3_rowThere_40 : decode cX3_rowThere 40 = .ok (.areturn, 1) := by decide +kernel
set_option maxRecDepth 20000 in
theorem ggX3_numbersIn_X3_numbersIn : GoodIn wsX3_numbersIn wsX3_numbersIn := goodIn_r _ [0, 1, 2, 3, 4, 5, 6, 7, 8, 9, 10] (by decide +kernel) (by decide +kernel)
set_option maxRecDepth 20000 in
theorem gX3_numbersIn_X3_numbersIn : GoodIn wsX3_numbersIn (va_wsS RX3 137 yX3_numbersIn wsX3_numbersIn) := goodIn_app (goodIn_of _ (by decide +kernel)) ggX3_numbersIn_X3_numbersIn
theorem dX3_numbersIn_0 : decode cX3_numbersIn 0 = .ok (.aload_n 0, 1) := by decide +kernel
theorem dX3_numbersIn_1 : decode cX3_numbersIn 1 = .ok (.ifnull 8, 3) := by decide +kernel
theorem dX3_numbersIn_4 : decode cX3_numbersIn 4 = .ok (.iload_n 1, 1) := by decide +kernel
theorem dX3_numbersIn_5 : decode cX3_numbersIn 5 = .ok (.iconst 1, 1) := by decide +kernel
theorem dX3_numbersIn_6 : decode cX3_numbersIn 6 = .ok (.if_icmp .ge 5, 3) := by decide +kernel
theorem dX3_numbersIn_9 : decode cX3_numbersIn 9 = .ok (.iconst 0, 1) := by decide +kernel
theorem dX3_numbersIn_10 : decode cX3_numbersIn 10 = .ok (.ireturn, 1) := by decide +kernel
theorem dX3_numbersIn_11 : decode cX3_numbersIn 11 = .ok (.aload_n 0, 1) := by decide +kernel
theorem dX3_numbersIn_12 : decode cX3_numbersIn 12 = .ok (.getfield 95, 3) := by decide +kernel
theorem dX3_numbersIn_15 : decode cX3_numbersIn 15 = .ok (.arraylength, 1) := by decide +kernel
theorem dX3_numbersIn_16 : decode cX3_numbersIn 16 = .ok (.istore_n 2, 1) := by decide +kernel
theorem dX3_numbersIn_17 : decode cX3_numbersIn 17 = .ok (.iconst 0, 1) := by decide +kernel
theorem dX3_numbersIn_18 : decode cX3_numbersIn 18 = .ok (.istore_n 3, 1) := by decide +kernel
theorem dX3_numbersIn_19 : decode cX3_numbersIn 19 = .ok (.iload_n 3, 1) := by decide +kernel
theorem dX3_numbersIn_20 : decode cX3_numbersIn 20 = .ok (.aload_n 0, 1) := by decide +kernel
theorem dX3_numbersIn_21 : decode cX3_numbersIn 21 = .ok (.getfield 116, 3) := by decide +kernel
theorem dX3_numbersIn_24 : decode cX3_numbersIn 24 = .ok (.arraylength, 1) := by decide +kernel
theorem dX3_numbersIn_25 : decode cX3_numbersIn 25 = .ok (.if_icmp .ge 24, 3) := by decide +kernel
theorem dX3_numbersIn_28 : decode cX3_numbersIn 28 = .ok (.iload_n 2, 1) := by decide +kernel
theorem dX3_numbersIn_29 : decode cX3_numbersIn 29 = .ok (.aload_n 0, 1) := by decide +kernel
theorem dX3_numbersIn_30 : decode cX3_numbersIn 30 = .ok (.getfield 116, 3) := by decide +kernel
theorem dX3_numbersIn_33 : decode cX3_numbersIn 33 = .ok (.iload_n 3, 1) := by decide +kernel
theorem dX3_numbersIn_34 : decode cX3_numbersIn 34 = .ok (.aaload, 1) := by decide +kernel
theorem dX3_numbersIn_35 : decode cX3_numbersIn 35 = .ok (.iload_n 1, 1) := by decide +kernel
theorem dX3_numbersIn_36 : decode cX3_numbersIn 36 = .ok (.iconst 1, 1) := by decide +kernel
theorem dX3_numbersIn_37 : decode cX3_numbersIn 37 = .ok (.isub, 1) := by decide +kernel
theorem dX3_numbersIn_38 : decode cX3_numbersIn 38 = .ok (.invokestatic 137, 3) := by decide +kernel
theorem dX3_numbersIn_41 : decode cX3_numbersIn 41 = .ok (.iadd, 1) := by decide +kernel
theorem dX3_numbersIn_42 : decode cX3_numbersIn 42 = .ok (.istore_n 2, 1) := by decide +kernel
theorem dX3_numbersIn_43 : decode cX3_numbersIn 43 = .ok (.iinc 3 1, 3) := by decide +kernel
theorem dX3_numbersIn_46 : decode cX3_numbersIn 46 = .ok (.goto (-27), 3) := by decide +kernel
theorem dX3_numbersIn_49 : decode cX3_numbersIn 49 = .ok (.iload_n 2, 1) := by decide +kernel
theorem dX3_numbersIn_50 : decode cX3_numbersIn 50 = .ok (.ireturn, 1) := by decide +kernel
set_option maxRecDepth 20000 in
theorem ggX3_sumOf_X3_sumOf : GoodIn wsX3_sumOf wsX3_sumOf := goodIn_r _ [0, 1, 2, 3, 4, 5, 6, 7, 8, 9, 10] (by decide +kernel) (by decide +kernel)
set_option maxRecDepth 20000 in
theorem gX3_sumOf_X3_sumOf : GoodIn wsX3_sumOf (va_wsS RX3 141 yX3_sumOf wsX3_sumOf) := goodIn_app (goodIn_of _ (by decide +kernel)) ggX3_sumOf_X3_sumOf
theorem dX3_sumOf_0 : decode cX3_sumOf 0 = .ok (.aload_n 0, 1) := by decide +kernel
theorem dX3_sumOf_1 : decode cX3_sumOf 1 = .ok (.ifnull 8, 3) := by decide +kernel
theorem dX3_sumOf_4 : decode cX3_sumOf 4 = .ok (.iload_n 1, 1) := by decide +kernel
theorem dX3_sumOf_5 : decode cX3_sumOf 5 = .ok (.iconst 1, 1) := by decide +kernel
theorem dX3_sumOf_6 : decode cX3_sumOf 6 = .ok (.if_icmp .ge 5, 3) := by decide +kernel
theorem dX3_sumOf_9 : decode cX3_sumOf 9 = .ok (.lconst 0, 1) := by decide +kernel
theorem dX3_sumOf_10 : decode cX3_sumOf 10 = .ok (.lreturn, 1) := by decide +kernel
theorem dX3_sumOf_11 : decode cX3_sumOf 11 = .ok (.lconst 0, 1) := by decide +kernel
theorem dX3_sumOf_12 : decode cX3_sumOf 12 = .ok (.lstore_n 2, 1) := by decide +kernel
theorem dX3_sumOf_13 : decode cX3_sumOf 13 = .ok (.iconst 0, 1) := by decide +kernel
theorem dX3_sumOf_14 : decode cX3_sumOf 14 = .ok (.istore 4, 2) := by decide +kernel
theorem dX3_sumOf_16 : decode cX3_sumOf 16 = .ok (.iload 4, 2) := by decide +kernel
theorem dX3_sumOf_18 : decode cX3_sumOf 18 = .ok (.aload_n 0, 1) := by decide +kernel
theorem dX3_sumOf_19 : decode cX3_sumOf 19 = .ok (.getfield 95, 3) := by decide +kernel
theorem dX3_sumOf_22 : decode cX3_sumOf 22 = .ok (.arraylength, 1) := by decide +kernel
theorem dX3_sumOf_23 : decode cX3_sumOf 23 = .ok (.if_icmp .ge 19, 3) := by decide +kernel
theorem dX3_sumOf_26 : decode cX3_sumOf 26 = .ok (.lload_n 2, 1) := by decide +kernel
theorem dX3_sumOf_27 : decode cX3_sumOf 27 = .ok (.aload_n 0, 1) := by decide +kernel
theorem dX3_sumOf_28 : decode cX3_sumOf 28 = .ok (.getfield 95, 3) := by decide +kernel
theorem dX3_sumOf_31 : decode cX3_sumOf 31 = .ok (.iload 4, 2) := by decide +kernel
theorem dX3_sumOf_33 : decode cX3_sumOf 33 = .ok (.laload, 1) := by decide +kernel
theorem dX3_sumOf_34 : decode cX3_sumOf 34 = .ok (.ladd, 1) := by decide +kernel
theorem dX3_sumOf_35 : decode cX3_sumOf 35 = .ok (.lstore_n 2, 1) := by decide +kernel
theorem dX3_sumOf_36 : decode cX3_sumOf 36 = .ok (.iinc 4 1, 3) := by decide +kernel
theorem dX3_sumOf_39 : decode cX3_sumOf 39 = .ok (.goto (-23), 3) := by decide +kernel
theorem dX3_sumOf_42 : decode cX3_sumOf 42 = .ok (.iconst 0, 1) := by decide +kernel
theorem dX3_sumOf_43 : decode cX3_sumOf 43 = .ok (.istore 4, 2) := by decide +kernel
theorem dX3_sumOf_45 : decode cX3_sumOf 45 = .ok (.iload 4, 2) := by decide +kernel
theorem dX3_sumOf_47 : decode cX3_sumOf 47 = .ok (.aload_n 0, 1) := by decide +kernel
theorem dX3_sumOf_48 : decode cX3_sumOf 48 = .ok (.getfield 116, 3) := by decide +kernel
theorem dX3_sumOf_51 : decode cX3_sumOf 51 = .ok (.arraylength, 1) := by decide +kernel
theorem dX3_sumOf_52 : decode cX3_sumOf 52 = .ok (.if_icmp .ge 25, 3) := by decide +kernel
theorem dX3_sumOf_55 : decode cX3_sumOf 55 = .ok (.lload_n 2, 1) := by decide +kernel
theorem dX3_sumOf_56 : decode cX3_sumOf 56 = .ok (.aload_n 0, 1) := by decide +kernel
theorem dX3_sumOf_57 : decode cX3_sumOf 57 = .ok (.getfield 116, 3) := by decide +kernel
theorem dX3_sumOf_60 : decode cX3_sumOf 60 = .ok (.iload 4, 2) := by decide +kernel
theorem dX3_sumOf_62 : decode cX3_sumOf 62 = .ok (.aaload, 1) := by decide +kernel
theorem dX3_sumOf_63 : decode cX3_sumOf 63 = .ok (.iload_n 1, 1) := by decide +kernel
theorem dX3_sumOf_64 : decode cX3_sumOf 64 = .ok (.iconst 1, 1) := by decide +kernel
theorem dX3_sumOf_65 : decode cX3_sumOf 65 = .ok (.isub, 1) := by decide +kernel
theorem dX3_sumOf_66 : decode cX3_sumOf 66 = .ok (.invokestatic 141, 3) := by decide +kernel
theorem dX3_sumOf_69 : decode cX3_sumOf 69 = .ok (.ladd, 1) := by decide +kernel
theorem dX3_sumOf_70 : decode cX3_sumOf 70 = .ok (.lstore_n 2, 1) := by decide +kernel
theorem dX3_sumOf_71 : decode cX3_sumOf 71 = .ok (.iinc 4 1, 3) := by decide +kernel
theorem dX3_sumOf_74 : decode cX3_sumOf 74 = .ok (.goto (-29), 3) := by decide +kernel
theorem dX3_sumOf_77 : decode cX3_sumOf 77 = .ok (.lload_n 2, 1) := by decide +kernel
theorem dX3_sumOf_78 : decode cX3_sumOf 78 = .ok (.lreturn, 1) := by decide +kernel
