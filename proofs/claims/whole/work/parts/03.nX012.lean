theorem dX0_init_0 : decode cX0_init 0 = .ok (.aload_n 0, 1) := by decide +kernel
theorem dX0_init_1 : decode cX0_init 1 = .ok (.invokespecial 3, 3) := by decide +kernel
theorem dX0_init_4 : decode cX0_init 4 = .ok (.return_, 1) := by decide +kernel
theorem dX0_startAt_0 : decode cX0_startAt 0 = .ok (.aload_n 0, 1) := by decide +kernel
theorem dX0_startAt_1 : decode cX0_startAt 1 = .ok (.aload_n 1, 1) := by decide +kernel
theorem dX0_startAt_2 : decode cX0_startAt 2 = .ok (.putfield 9, 3) := by decide +kernel
theorem dX0_startAt_5 : decode cX0_startAt 5 = .ok (.aload_n 0, 1) := by decide +kernel
theorem dX0_startAt_6 : decode cX0_startAt 6 = .ok (.iconst 0, 1) := by decide +kernel
theorem dX0_startAt_7 : decode cX0_startAt 7 = .ok (.putfield 15, 3) := by decide +kernel
theorem dX0_startAt_10 : decode cX0_startAt 10 = .ok (.aload_n 0, 1) := by decide +kernel
theorem dX0_startAt_11 : decode cX0_startAt 11 = .ok (.iconst 0, 1) := by decide +kernel
theorem dX0_startAt_12 : decode cX0_startAt 12 = .ok (.putfield 19, 3) := by decide +kernel
theorem dX0_startAt_15 : decode cX0_startAt 15 = .ok (.return_, 1) := by decide +kernel
set_option maxRecDepth 20000 in
theorem ggX0_stepTo_X0_wantRow : GoodIn wsX0_stepTo wsX0_wantRow := goodIn_r _ [13, 2, 1, 3, 25, 26, 27, 28, 29] (by decide +kernel) (by decide +kernel)
set_option maxRecDepth 20000 in
theorem gX0_stepTo_X0_wantRow : GoodIn wsX0_stepTo (wsV RX0 23 RX0 yX0_wantRow wsX0_wantRow) := goodIn_app (goodIn_of _ (by decide +kernel)) ggX0_stepTo_X0_wantRow
set_option maxRecDepth 20000 in
theorem ggX0_stepTo_X2_hasPlace : GoodIn wsX0_stepTo wsX2_hasPlace := goodIn_r _ [18, 19, 30, 31, 32, 33, 34] (by decide +kernel) (by decide +kernel)
set_option maxRecDepth 20000 in
theorem gX0_stepTo_X2_hasPlace : GoodIn wsX0_stepTo (wsV RX0 26 RX2 yX2_hasPlace wsX2_hasPlace) := goodIn_app (goodIn_of _ (by decide +kernel)) ggX0_stepTo_X2_hasPlace
set_option maxRecDepth 20000 in
theorem ggX0_stepTo_X2_hasNumbers : GoodIn wsX0_stepTo wsX2_hasNumbers := goodIn_r _ [23, 24, 30, 31, 32, 33, 34] (by decide +kernel) (by decide +kernel)
set_option maxRecDepth 20000 in
theorem gX0_stepTo_X2_hasNumbers : GoodIn wsX0_stepTo (wsV RX0 32 RX2 yX2_hasNumbers wsX2_hasNumbers) := goodIn_app (goodIn_of _ (by decide +kernel)) ggX0_stepTo_X2_hasNumbers
theorem dX0_stepTo_0 : decode cX0_stepTo 0 = .ok (.aload_n 0, 1) := by decide +kernel
theorem dX0_stepTo_1 : decode cX0_stepTo 1 = .ok (.invokevirtual 23, 3) := by decide +kernel
theorem dX0_stepTo_4 : decode cX0_stepTo 4 = .ok (.aload_n 0, 1) := by decide +kernel
theorem dX0_stepTo_5 : decode cX0_stepTo 5 = .ok (.getfield 9, 3) := by decide +kernel
theorem dX0_stepTo_8 : decode cX0_stepTo 8 = .ok (.astore_n 2, 1) := by decide +kernel
theorem dX0_stepTo_9 : decode cX0_stepTo 9 = .ok (.aload_n 0, 1) := by decide +kernel
theorem dX0_stepTo_10 : decode cX0_stepTo 10 = .ok (.getfield 19, 3) := by decide +kernel
theorem dX0_stepTo_13 : decode cX0_stepTo 13 = .ok (.ifCond .ne 7, 3) := by decide +kernel
theorem dX0_stepTo_16 : decode cX0_stepTo 16 = .ok (.aload_n 2, 1) := by decide +kernel
theorem dX0_stepTo_17 : decode cX0_stepTo 17 = .ok (.ifnonnull 4, 3) := by decide +kernel
theorem dX0_stepTo_20 : decode cX0_stepTo 20 = .ok (.return_, 1) := by decide +kernel
theorem dX0_stepTo_21 : decode cX0_stepTo 21 = .ok (.aload_n 2, 1) := by decide +kernel
theorem dX0_stepTo_22 : decode cX0_stepTo 22 = .ok (.iload_n 1, 1) := by decide +kernel
theorem dX0_stepTo_23 : decode cX0_stepTo 23 = .ok (.invokevirtual 26, 3) := by decide +kernel
theorem dX0_stepTo_26 : decode cX0_stepTo 26 = .ok (.ifCond .ne 11, 3) := by decide +kernel
theorem dX0_stepTo_29 : decode cX0_stepTo 29 = .ok (.aload_n 0, 1) := by decide +kernel
theorem dX0_stepTo_30 : decode cX0_stepTo 30 = .ok (.iconst 3, 1) := by decide +kernel
theorem dX0_stepTo_31 : decode cX0_stepTo 31 = .ok (.putfield 19, 3) := by decide +kernel
theorem dX0_stepTo_34 : decode cX0_stepTo 34 = .ok (.goto 51, 3) := by decide +kernel
theorem dX0_stepTo_37 : decode cX0_stepTo 37 = .ok (.aload_n 2, 1) := by decide +kernel
theorem dX0_stepTo_38 : decode cX0_stepTo 38 = .ok (.invokevirtual 32, 3) := by decide +kernel
theorem dX0_stepTo_41 : decode cX0_stepTo 41 = .ok (.ifCond .eq 34, 3) := by decide +kernel
theorem dX0_stepTo_44 : decode cX0_stepTo 44 = .ok (.aload_n 0, 1) := by decide +kernel
theorem dX0_stepTo_45 : decode cX0_stepTo 45 = .ok (.iconst 1, 1) := by decide +kernel
theorem dX0_stepTo_46 : decode cX0_stepTo 46 = .ok (.putfield 15, 3) := by decide +kernel
theorem dX0_stepTo_49 : decode cX0_stepTo 49 = .ok (.aload_n 0, 1) := by decide +kernel
theorem dX0_stepTo_50 : decode cX0_stepTo 50 = .ok (.aload_n 2, 1) := by decide +kernel
theorem dX0_stepTo_51 : decode cX0_stepTo 51 = .ok (.getfield 36, 3) := by decide +kernel
theorem dX0_stepTo_54 : decode cX0_stepTo 54 = .ok (.putfield 39, 3) := by decide +kernel
theorem dX0_stepTo_57 : decode cX0_stepTo 57 = .ok (.aload_n 0, 1) := by decide +kernel
theorem dX0_stepTo_58 : decode cX0_stepTo 58 = .ok (.aload_n 2, 1) := by decide +kernel
theorem dX0_stepTo_59 : decode cX0_stepTo 59 = .ok (.getfield 40, 3) := by decide +kernel
theorem dX0_stepTo_62 : decode cX0_stepTo 62 = .ok (.iload_n 1, 1) := by decide +kernel
theorem dX0_stepTo_63 : decode cX0_stepTo 63 = .ok (.laload, 1) := by decide +kernel
theorem dX0_stepTo_64 : decode cX0_stepTo 64 = .ok (.putfield 44, 3) := by decide +kernel
theorem dX0_stepTo_67 : decode cX0_stepTo 67 = .ok (.aload_n 0, 1) := by decide +kernel
theorem dX0_stepTo_68 : decode cX0_stepTo 68 = .ok (.aconst_null, 1) := by decide +kernel
theorem dX0_stepTo_69 : decode cX0_stepTo 69 = .ok (.putfield 9, 3) := by decide +kernel
theorem dX0_stepTo_72 : decode cX0_stepTo 72 = .ok (.goto 13, 3) := by decide +kernel
theorem dX0_stepTo_75 : decode cX0_stepTo 75 = .ok (.aload_n 0, 1) := by decide +kernel
theorem dX0_stepTo_76 : decode cX0_stepTo 76 = .ok (.aload_n 2, 1) := by decide +kernel
theorem dX0_stepTo_77 : decode cX0_stepTo 77 = .ok (.getfield 48, 3) := by decide +kernel
theorem dX0_stepTo_80 : decode cX0_stepTo 80 = .ok (.iload_n 1, 1) := by decide +kernel
theorem dX0_stepTo_81 : decode cX0_stepTo 81 = .ok (.aaload, 1) := by decide +kernel
theorem dX0_stepTo_82 : decode cX0_stepTo 82 = .ok (.putfield 9, 3) := by decide +kernel
theorem dX0_stepTo_85 : decode cX0_stepTo 85 = .ok (.return_, 1) := by decide +kernel
theorem dX0_wantRow_0 : decode cX0_wantRow 0 = .ok (.aload_n 0, 1) := by decide +kernel
theorem dX0_wantRow_1 : decode cX0_wantRow 1 = .ok (.getfield 19, 3) := by decide +kernel
theorem dX0_wantRow_4 : decode cX0_wantRow 4 = .ok (.ifCond .ne 26, 3) := by decide +kernel
theorem dX0_wantRow_7 : decode cX0_wantRow 7 = .ok (.aload_n 0, 1) := by decide +kernel
theorem dX0_wantRow_8 : decode cX0_wantRow 8 = .ok (.getfield 9, 3) := by decide +kernel
theorem dX0_wantRow_11 : decode cX0_wantRow 11 = .ok (.ifnonnull 19, 3) := by decide +kernel
theorem dX0_wantRow_14 : decode cX0_wantRow 14 = .ok (.aload_n 0, 1) := by decide +kernel
theorem dX0_wantRow_15 : decode cX0_wantRow 15 = .ok (.aload_n 0, 1) := by decide +kernel
theorem dX0_wantRow_16 : decode cX0_wantRow 16 = .ok (.getfield 15, 3) := by decide +kernel
theorem dX0_wantRow_19 : decode cX0_wantRow 19 = .ok (.ifCond .eq 7, 3) := by decide +kernel
theorem dX0_wantRow_22 : decode cX0_wantRow 22 = .ok (.iconst 2, 1) := by decide +kernel
theorem dX0_wantRow_23 : decode cX0_wantRow 23 = .ok (.goto 4, 3) := by decide +kernel
theorem dX0_wantRow_26 : decode cX0_wantRow 26 = .ok (.iconst 1, 1) := by decide +kernel
theorem dX0_wantRow_27 : decode cX0_wantRow 27 = .ok (.putfield 19, 3) := by decide +kernel
theorem dX0_wantRow_30 : decode cX0_wantRow 30 = .ok (.return_, 1) := by decide +kernel
theorem dX1_goesInto_0 : decode cX1_goesInto 0 = .ok (.iload_n 0, 1) := by decide +kernel
theorem dX1_goesInto_1 : decode cX1_goesInto 1 = .ok (.iload_n 1, 1) := by decide +kernel
theorem dX1_goesInto_2 : decode cX1_goesInto 2 = .ok (.if_icmp .ne 5, 3) := by decide +kernel
theorem dX1_goesInto_5 : decode cX1_goesInto 5 = .ok (.iconst 1, 1) := by decide +kernel
theorem dX1_goesInto_6 : decode cX1_goesInto 6 = .ok (.ireturn, 1) := by decide +kernel
theorem dX1_goesInto_7 : decode cX1_goesInto 7 = .ok (.iload_n 0, 1) := by decide +kernel
theorem dX1_goesInto_8 : decode cX1_goesInto 8 = .ok (.ifCond .ne 5, 3) := by decide +kernel
theorem dX1_goesInto_11 : decode cX1_goesInto 11 = .ok (.iconst 0, 1) := by decide +kernel
theorem dX1_goesInto_12 : decode cX1_goesInto 12 = .ok (.ireturn, 1) := by decide +kernel
theorem dX1_goesInto_13 : decode cX1_goesInto 13 = .ok (.iload_n 0, 1) := by decide +kernel
theorem dX1_goesInto_14 : decode cX1_goesInto 14 = .ok (.iconst 1, 1) := by decide +kernel
theorem dX1_goesInto_15 : decode cX1_goesInto 15 = .ok (.if_icmp .ne 10, 3) := by decide +kernel
theorem dX1_goesInto_18 : decode cX1_goesInto 18 = .ok (.iload_n 1, 1) := by decide +kernel
theorem dX1_goesInto_19 : decode cX1_goesInto 19 = .ok (.iconst 2, 1) := by decide +kernel
theorem dX1_goesInto_20 : decode cX1_goesInto 20 = .ok (.if_icmp .ne 5, 3) := by decide +kernel
theorem dX1_goesInto_23 : decode cX1_goesInto 23 = .ok (.iconst 1, 1) := by decide +kernel
theorem dX1_goesInto_24 : decode cX1_goesInto 24 = .ok (.ireturn, 1) := by decide +kernel
theorem dX1_goesInto_25 : decode cX1_goesInto 25 = .ok (.iload_n 1, 1) := by decide +kernel
theorem dX1_goesInto_26 : decode cX1_goesInto 26 = .ok (.iconst 4, 1) := by decide +kernel
theorem dX1_goesInto_27 : decode cX1_goesInto 27 = .ok (.if_icmp .lt 12, 3) := by decide +kernel
theorem dX1_goesInto_30 : decode cX1_goesInto 30 = .ok (.iload_n 1, 1) := by decide +kernel
theorem dX1_goesInto_31 : decode cX1_goesInto 31 = .ok (.iload_n 0, 1) := by decide +kernel
theorem dX1_goesInto_32 : decode cX1_goesInto 32 = .ok (.if_icmp .le 7, 3) := by decide +kernel
theorem dX1_goesInto_35 : decode cX1_goesInto 35 = .ok (.iconst 1, 1) := by decide +kernel
theorem dX1_goesInto_36 : decode cX1_goesInto 36 = .ok (.goto 4, 3) := by decide +kernel
theorem dX1_goesInto_39 : decode cX1_goesInto 39 = .ok (.iconst 0, 1) := by decide +kernel
theorem dX1_goesInto_40 : decode cX1_goesInto 40 = .ok (.ireturn, 1) := by decide +kernel
set_option maxRecDepth 20000 in
theorem ggX1_told_X1_lowBits : GoodIn wsX1_told wsX1_lowBits := goodIn_r _ [8] (by decide +kernel) (by decide +kernel)
set_option maxRecDepth 20000 in
theorem gX1_told_X1_lowBits : GoodIn wsX1_told (va_wsS RX1 9 yX1_lowBits wsX1_lowBits) := goodIn_app (goodIn_of _ (by decide +kernel)) ggX1_told_X1_lowBits
theorem dX1_told_0 : decode cX1_told 0 = .ok (.iload_n 0, 1) := by decide +kernel
theorem dX1_told_1 : decode cX1_told 1 = .ok (.tableswitch 116 0 7 #[47, 51, 56, 61, 66, 116, 70, 94], 47) := by decide +kernel
theorem dX1_told_48 : decode cX1_told 48 = .ok (.lload_n 1, 1) := by decide +kernel
theorem dX1_told_49 : decode cX1_told 49 = .ok (.lconst 1, 1) := by decide +kernel
theorem dX1_told_50 : decode cX1_told 50 = .ok (.land, 1) := by decide +kernel
theorem dX1_told_51 : decode cX1_told 51 = .ok (.lreturn, 1) := by decide +kernel
theorem dX1_told_52 : decode cX1_told 52 = .ok (.lload_n 1, 1) := by decide +kernel
theorem dX1_told_53 : decode cX1_told 53 = .ok (.l2i, 1) := by decide +kernel
theorem dX1_told_54 : decode cX1_told 54 = .ok (.i2b, 1) := by decide +kernel
theorem dX1_told_55 : decode cX1_told 55 = .ok (.i2l, 1) := by decide +kernel
theorem dX1_told_56 : decode cX1_told 56 = .ok (.lreturn, 1) := by decide +kernel
theorem dX1_told_57 : decode cX1_told 57 = .ok (.lload_n 1, 1) := by decide +kernel
theorem dX1_told_58 : decode cX1_told 58 = .ok (.l2i, 1) := by decide +kernel
theorem dX1_told_59 : decode cX1_told 59 = .ok (.i2s, 1) := by decide +kernel
theorem dX1_told_60 : decode cX1_told 60 = .ok (.i2l, 1) := by decide +kernel
theorem dX1_told_61 : decode cX1_told 61 = .ok (.lreturn, 1) := by decide +kernel
theorem dX1_told_62 : decode cX1_told 62 = .ok (.lload_n 1, 1) := by decide +kernel
theorem dX1_told_63 : decode cX1_told 63 = .ok (.l2i, 1) := by decide +kernel
theorem dX1_told_64 : decode cX1_told 64 = .ok (.i2c, 1) := by decide +kernel
theorem dX1_told_65 : decode cX1_told 65 = .ok (.i2l, 1) := by decide +kernel
theorem dX1_told_66 : decode cX1_told 66 = .ok (.lreturn, 1) := by decide +kernel
theorem dX1_told_67 : decode cX1_told 67 = .ok (.lload_n 1, 1) := by decide +kernel
theorem dX1_told_68 : decode cX1_told 68 = .ok (.l2i, 1) := by decide +kernel
theorem dX1_told_69 : decode cX1_told 69 = .ok (.i2l, 1) := by decide +kernel
theorem dX1_told_70 : decode cX1_told 70 = .ok (.lreturn, 1) := by decide +kernel
theorem dX1_told_71 : decode cX1_told 71 = .ok (.lload_n 1, 1) := by decide +kernel
theorem dX1_told_72 : decode cX1_told 72 = .ok (.bipush 31, 2) := by decide +kernel
theorem dX1_told_74 : decode cX1_told 74 = .ok (.invokestatic 9, 3) := by decide +kernel
theorem dX1_told_77 : decode cX1_told 77 = .ok (.land, 1) := by decide +kernel
theorem dX1_told_78 : decode cX1_told 78 = .ok (.ldc2_w 13, 3) := by decide +kernel
theorem dX1_told_81 : decode cX1_told 81 = .ok (.lcmp, 1) := by decide +kernel
theorem dX1_told_82 : decode cX1_told 82 = .ok (.ifCond .le 9, 3) := by decide +kernel
theorem dX1_told_85 : decode cX1_told 85 = .ok (.ldc2_w 15, 3) := by decide +kernel
theorem dX1_told_88 : decode cX1_told 88 = .ok (.goto 6, 3) := by decide +kernel
theorem dX1_told_91 : decode cX1_told 91 = .ok (.lload_n 1, 1) := by decide +kernel
theorem dX1_told_92 : decode cX1_told 92 = .ok (.l2i, 1) := by decide +kernel
theorem dX1_told_93 : decode cX1_told 93 = .ok (.i2l, 1) := by decide +kernel
theorem dX1_told_94 : decode cX1_told 94 = .ok (.lreturn, 1) := by decide +kernel
theorem dX1_told_95 : decode cX1_told 95 = .ok (.lload_n 1, 1) := by decide +kernel
theorem dX1_told_96 : decode cX1_told 96 = .ok (.bipush 63, 2) := by decide +kernel
theorem dX1_told_98 : decode cX1_told 98 = .ok (.invokestatic 9, 3) := by decide +kernel
theorem dX1_told_101 : decode cX1_told 101 = .ok (.land, 1) := by decide +kernel
theorem dX1_told_102 : decode cX1_told 102 = .ok (.ldc2_w 17, 3) := by decide +kernel
theorem dX1_told_105 : decode cX1_told 105 = .ok (.lcmp, 1) := by decide +kernel
theorem dX1_told_106 : decode cX1_told 106 = .ok (.ifCond .le 9, 3) := by decide +kernel
theorem dX1_told_109 : decode cX1_told 109 = .ok (.ldc2_w 19, 3) := by decide +kernel
theorem dX1_told_112 : decode cX1_told 112 = .ok (.goto 4, 3) := by decide +kernel
theorem dX1_told_115 : decode cX1_told 115 = .ok (.lload_n 1, 1) := by decide +kernel
theorem dX1_told_116 : decode cX1_told 116 = .ok (.lreturn, 1) := by decide +kernel
theorem dX1_told_117 : decode cX1_told 117 = .ok (.lload_n 1, 1) := by decide +kernel
theorem dX1_told_118 : decode cX1_told 118 = .ok (.lreturn, 1) := by decide +kernel
set_option maxRecDepth 20000 in
theorem ggX1_asKind_X1_doubleOfFloat : GoodIn wsX1_asKind wsX1_doubleOfFloat := goodIn_r _ [4, 5, 6, 7, 8, 9, 10, 11, 3, 12, 13, 14, 15, 16, 17, 18, 19, 20, 21, 22, 23, 24, 25, 26, 27, 28, 29, 30, 31] (by decide +kernel) (by decide +kernel)
set_option maxRecDepth 20000 in
theorem gX1_asKind_X1_doubleOfFloat : GoodIn wsX1_asKind (va_wsS RX1 21 yX1_doubleOfFloat wsX1_doubleOfFloat) := goodIn_app (goodIn_of _ (by decide +kernel)) ggX1_asKind_X1_doubleOfFloat
set_option maxRecDepth 20000 in
theorem ggX1_asKind_X1_nearestFloat : GoodIn wsX1_asKind wsX1_nearestFloat := goodIn_r _ [34, 35, 36, 3, 37, 13, 14, 15, 16, 17, 18, 19, 20, 21, 22, 23, 24, 25, 26, 27, 10, 11, 12, 28, 29, 30, 31] (by decide +kernel) (by decide +kernel)
set_option maxRecDepth 20000 in
theorem gX1_asKind_X1_nearestFloat : GoodIn wsX1_asKind (va_wsS RX1 25 yX1_nearestFloat wsX1_nearestFloat) := goodIn_app (goodIn_of _ (by decide +kernel)) ggX1_asKind_X1_nearestFloat
set_option maxRecDepth 20000 in
theorem ggX1_asKind_X1_nearestDouble : GoodIn wsX1_asKind wsX1_nearestDouble := goodIn_r _ [40, 35, 36, 3, 37, 13, 14, 15, 16, 17, 18, 19, 20, 21, 22, 23, 24, 25, 26, 27, 10, 11, 12, 28, 29, 30, 31] (by decide +kernel) (by decide +kernel)
set_option maxRecDepth 20000 in
theorem gX1_asKind_X1_nearestDouble : GoodIn wsX1_asKind (va_wsS RX1 28 yX1_nearestDouble wsX1_nearestDouble) := goodIn_app (goodIn_of _ (by decide +kernel)) ggX1_asKind_X1_nearestDouble
theorem dX1_asKind_0 : decode cX1_asKind 0 = .ok (.iload_n 2, 1) := by decide +kernel
theorem dX1_asKind_1 : decode cX1_asKind 1 = .ok (.iload_n 3, 1) := by decide +kernel
theorem dX1_asKind_2 : decode cX1_asKind 2 = .ok (.if_icmp .eq 9, 3) := by decide +kernel
theorem dX1_asKind_5 : decode cX1_asKind 5 = .ok (.iload_n 3, 1) := by decide +kernel
theorem dX1_asKind_6 : decode cX1_asKind 6 = .ok (.bipush 6, 2) := by decide +kernel
theorem dX1_asKind_8 : decode cX1_asKind 8 = .ok (.if_icmp .ge 5, 3) := by decide +kernel
theorem dX1_asKind_11 : decode cX1_asKind 11 = .ok (.lload_n 0, 1) := by decide +kernel
theorem dX1_asKind_12 : decode cX1_asKind 12 = .ok (.lreturn, 1) := by decide +kernel
theorem dX1_asKind_13 : decode cX1_asKind 13 = .ok (.iload_n 2, 1) := by decide +kernel
theorem dX1_asKind_14 : decode cX1_asKind 14 = .ok (.bipush 6, 2) := by decide +kernel
theorem dX1_asKind_16 : decode cX1_asKind 16 = .ok (.if_icmp .ne 8, 3) := by decide +kernel
theorem dX1_asKind_19 : decode cX1_asKind 19 = .ok (.lload_n 0, 1) := by decide +kernel
theorem dX1_asKind_20 : decode cX1_asKind 20 = .ok (.invokestatic 21, 3) := by decide +kernel
theorem dX1_asKind_23 : decode cX1_asKind 23 = .ok (.lreturn, 1) := by decide +kernel
theorem dX1_asKind_24 : decode cX1_asKind 24 = .ok (.iload_n 3, 1) := by decide +kernel
theorem dX1_asKind_25 : decode cX1_asKind 25 = .ok (.bipush 6, 2) := by decide +kernel
theorem dX1_asKind_27 : decode cX1_asKind 27 = .ok (.if_icmp .ne 10, 3) := by decide +kernel
theorem dX1_asKind_30 : decode cX1_asKind 30 = .ok (.lload_n 0, 1) := by decide +kernel
theorem dX1_asKind_31 : decode cX1_asKind 31 = .ok (.invokestatic 25, 3) := by decide +kernel
theorem dX1_asKind_34 : decode cX1_asKind 34 = .ok (.goto 7, 3) := by decide +kernel
theorem dX1_asKind_37 : decode cX1_asKind 37 = .ok (.lload_n 0, 1) := by decide +kernel
theorem dX1_asKind_38 : decode cX1_asKind 38 = .ok (.invokestatic 28, 3) := by decide +kernel
theorem dX1_asKind_41 : decode cX1_asKind 41 = .ok (.lreturn, 1) := by decide +kernel
set_option maxRecDepth 20000 in
theorem ggX1_nearestFloat_X1_sizeOf : GoodIn wsX1_nearestFloat wsX1_sizeOf := goodIn_r _ [4] (by decide +kernel) (by decide +kernel)
set_option maxRecDepth 20000 in
theorem gX1_nearestFloat_X1_sizeOf : GoodIn wsX1_nearestFloat (va_wsS RX1 31 yX1_sizeOf wsX1_sizeOf) := goodIn_app (goodIn_of _ (by decide +kernel)) ggX1_nearestFloat_X1_sizeOf
set_option maxRecDepth 20000 in
theorem ggX1_nearestFloat_X1_nearest : GoodIn wsX1_nearestFloat wsX1_nearest := goodIn_r _ [7, 8, 9, 10, 11, 12, 13, 14, 15, 16, 17, 18, 3, 19, 20, 21, 22] (by decide +kernel) (by decide +kernel)
set_option maxRecDepth 20000 in
theorem gX1_nearestFloat_X1_nearest : GoodIn wsX1_nearestFloat (va_wsS RX1 34 yX1_nearest wsX1_nearest) := goodIn_app (goodIn_of _ (by decide +kernel)) ggX1_nearestFloat_X1_nearest
set_option maxRecDepth 20000 in
theorem ggX1_nearestFloat_X1_withSign : GoodIn wsX1_nearestFloat wsX1_withSign := goodIn_r _ [25, 26] (by decide +kernel) (by decide +kernel)
set_option maxRecDepth 20000 in
theorem gX1_nearestFloat_X1_withSign : GoodIn wsX1_nearestFloat (va_wsS RX1 38 yX1_withSign wsX1_withSign) := goodIn_app (goodIn_of _ (by decide +kernel)) ggX1_nearestFloat_X1_withSign
theorem dX1_nearestFloat_0 : decode cX1_nearestFloat 0 = .ok (.lload_n 0, 1) := by decide +kernel
theorem dX1_nearestFloat_1 : decode cX1_nearestFloat 1 = .ok (.invokestatic 31, 3) := by decide +kernel
theorem dX1_nearestFloat_4 : decode cX1_nearestFloat 4 = .ok (.bipush 23, 2) := by decide +kernel
theorem dX1_nearestFloat_6 : decode cX1_nearestFloat 6 = .ok (.bipush 127, 2) := by decide +kernel
theorem dX1_nearestFloat_8 : decode cX1_nearestFloat 8 = .ok (.invokestatic 34, 3) := by decide +kernel
theorem dX1_nearestFloat_11 : decode cX1_nearestFloat 11 = .ok (.lstore_n 2, 1) := by decide +kernel
theorem dX1_nearestFloat_12 : decode cX1_nearestFloat 12 = .ok (.lload_n 2, 1) := by decide +kernel
theorem dX1_nearestFloat_13 : decode cX1_nearestFloat 13 = .ok (.lload_n 0, 1) := by decide +kernel
theorem dX1_nearestFloat_14 : decode cX1_nearestFloat 14 = .ok (.lconst 0, 1) := by decide +kernel
theorem dX1_nearestFloat_15 : decode cX1_nearestFloat 15 = .ok (.lcmp, 1) := by decide +kernel
theorem dX1_nearestFloat_16 : decode cX1_nearestFloat 16 = .ok (.ifCond .ge 7, 3) := by decide +kernel
theorem dX1_nearestFloat_19 : decode cX1_nearestFloat 19 = .ok (.iconst 1, 1) := by decide +kernel
theorem dX1_nearestFloat_20 : decode cX1_nearestFloat 20 = .ok (.goto 4, 3) := by decide +kernel
theorem dX1_nearestFloat_23 : decode cX1_nearestFloat 23 = .ok (.iconst 0, 1) := by decide +kernel
theorem dX1_nearestFloat_24 : decode cX1_nearestFloat 24 = .ok (.bipush 31, 2) := by decide +kernel
theorem dX1_nearestFloat_26 : decode cX1_nearestFloat 26 = .ok (.invokestatic 38, 3) := by decide +kernel
theorem dX1_nearestFloat_29 : decode cX1_nearestFloat 29 = .ok (.lreturn, 1) := by decide +kernel
set_option maxRecDepth 20000 in
theorem ggX1_nearestDouble_X1_sizeOf : GoodIn wsX1_nearestDouble wsX1_sizeOf := goodIn_r _ [4] (by decide +kernel) (by decide +kernel)
set_option maxRecDepth 20000 in
theorem gX1_nearestDouble_X1_sizeOf : GoodIn wsX1_nearestDouble (va_wsS RX1 31 yX1_sizeOf wsX1_sizeOf) := goodIn_app (goodIn_of _ (by decide +kernel)) ggX1_nearestDouble_X1_sizeOf
set_option maxRecDepth 20000 in
theorem ggX1_nearestDouble_X1_nearest : GoodIn wsX1_nearestDouble wsX1_nearest := goodIn_r _ [7, 8, 9, 10, 11, 12, 13, 14, 15, 16, 17, 18, 3, 19, 20, 21, 22] (by decide +kernel) (by decide +kernel)
set_option maxRecDepth 20000 in
theorem gX1_nearestDouble_X1_nearest : GoodIn wsX1_nearestDouble (va_wsS RX1 34 yX1_nearest wsX1_nearest) := goodIn_app (goodIn_of _ (by decide +kernel)) ggX1_nearestDouble_X1_nearest
set_option maxRecDepth 20000 in
theorem ggX1_nearestDouble_X1_withSign : GoodIn wsX1_nearestDouble wsX1_withSign := goodIn_r _ [25, 26] (by decide +kernel) (by decide +kernel)
set_option maxRecDepth 20000 in
theorem gX1_nearestDouble_X1_withSign : GoodIn wsX1_nearestDouble (va_wsS RX1 38 yX1_withSign wsX1_withSign) := goodIn_app (goodIn_of _ (by decide +kernel)) ggX1_nearestDouble_X1_withSign
theorem dX1_nearestDouble_0 : decode cX1_nearestDouble 0 = .ok (.lload_n 0, 1) := by decide +kernel
theorem dX1_nearestDouble_1 : decode cX1_nearestDouble 1 = .ok (.invokestatic 31, 3) := by decide +kernel
theorem dX1_nearestDouble_4 : decode cX1_nearestDouble 4 = .ok (.bipush 52, 2) := by decide +kernel
theorem dX1_nearestDouble_6 : decode cX1_nearestDouble 6 = .ok (.sipush 1023, 3) := by decide +kernel
theorem dX1_nearestDouble_9 : decode cX1_nearestDouble 9 = .ok (.invokestatic 34, 3) := by decide +kernel
theorem dX1_nearestDouble_12 : decode cX1_nearestDouble 12 = .ok (.lstore_n 2, 1) := by decide +kernel
theorem dX1_nearestDouble_13 : decode cX1_nearestDouble 13 = .ok (.lload_n 2, 1) := by decide +kernel
theorem dX1_nearestDouble_14 : decode cX1_nearestDouble 14 = .ok (.lload_n 0, 1) := by decide +kernel
theorem dX1_nearestDouble_15 : decode cX1_nearestDouble 15 = .ok (.lconst 0, 1) := by decide +kernel
theorem dX1_nearestDouble_16 : decode cX1_nearestDouble 16 = .ok (.lcmp, 1) := by decide +kernel
theorem dX1_nearestDouble_17 : decode cX1_nearestDouble 17 = .ok (.ifCond .ge 7, 3) := by decide +kernel
theorem dX1_nearestDouble_20 : decode cX1_nearestDouble 20 = .ok (.iconst 1, 1) := by decide +kernel
theorem dX1_nearestDouble_21 : decode cX1_nearestDouble 21 = .ok (.goto 4, 3) := by decide +kernel
theorem dX1_nearestDouble_24 : decode cX1_nearestDouble 24 = .ok (.iconst 0, 1) := by decide +kernel
theorem dX1_nearestDouble_25 : decode cX1_nearestDouble 25 = .ok (.bipush 63, 2) := by decide +kernel
theorem dX1_nearestDouble_27 : decode cX1_nearestDouble 27 = .ok (.invokestatic 38, 3) := by decide +kernel
theorem dX1_nearestDouble_30 : decode cX1_nearestDouble 30 = .ok (.lreturn, 1) := by decide +kernel
set_option maxRecDepth 20000 in
theorem ggX1_doubleOfFloat_X1_lowBits : GoodIn wsX1_doubleOfFloat wsX1_lowBits := goodIn_r _ [9] (by decide +kernel) (by decide +kernel)
set_option maxRecDepth 20000 in
theorem gX1_doubleOfFloat_X1_lowBits : GoodIn wsX1_doubleOfFloat (va_wsS RX1 9 yX1_lowBits wsX1_lowBits) := goodIn_app (goodIn_of _ (by decide +kernel)) ggX1_doubleOfFloat_X1_lowBits
set_option maxRecDepth 20000 in
theorem ggX1_doubleOfFloat_X1_nearest : GoodIn wsX1_doubleOfFloat wsX1_nearest := goodIn_r _ [12, 13, 14, 15, 16, 17, 18, 19, 20, 21, 22, 23, 8, 24, 6, 7, 9] (by decide +kernel) (by decide +kernel)
set_option maxRecDepth 20000 in
theorem gX1_doubleOfFloat_X1_nearest : GoodIn wsX1_doubleOfFloat (va_wsS RX1 34 yX1_nearest wsX1_nearest) := goodIn_app (goodIn_of _ (by decide +kernel)) ggX1_doubleOfFloat_X1_nearest
set_option maxRecDepth 20000 in
theorem ggX1_doubleOfFloat_X1_withSign : GoodIn wsX1_doubleOfFloat wsX1_withSign := goodIn_r _ [27, 28] (by decide +kernel) (by decide +kernel)
set_option maxRecDepth 20000 in
theorem gX1_doubleOfFloat_X1_withSign : GoodIn wsX1_doubleOfFloat (va_wsS RX1 38 yX1_withSign wsX1_withSign) := goodIn_app (goodIn_of _ (by decide +kernel)) ggX1_doubleOfFloat_X1_withSign
theorem dX1_doubleOfFloat_0 : decode cX1_doubleOfFloat 0 = .ok (.lload_n 0, 1) := by decide +kernel
theorem dX1_doubleOfFloat_1 : decode cX1_doubleOfFloat 1 = .ok (.bipush 31, 2) := by decide +kernel
theorem dX1_doubleOfFloat_3 : decode cX1_doubleOfFloat 3 = .ok (.invokestatic 9, 3) := by decide +kernel
theorem dX1_doubleOfFloat_6 : decode cX1_doubleOfFloat 6 = .ok (.land, 1) := by decide +kernel
theorem dX1_doubleOfFloat_7 : decode cX1_doubleOfFloat 7 = .ok (.lstore_n 2, 1) := by decide +kernel
theorem dX1_doubleOfFloat_8 : decode cX1_doubleOfFloat 8 = .ok (.lload_n 2, 1) := by decide +kernel
theorem dX1_doubleOfFloat_9 : decode cX1_doubleOfFloat 9 = .ok (.ldc2_w 13, 3) := by decide +kernel
theorem dX1_doubleOfFloat_12 : decode cX1_doubleOfFloat 12 = .ok (.lcmp, 1) := by decide +kernel
theorem dX1_doubleOfFloat_13 : decode cX1_doubleOfFloat 13 = .ok (.ifCond .le 7, 3) := by decide +kernel
theorem dX1_doubleOfFloat_16 : decode cX1_doubleOfFloat 16 = .ok (.ldc2_w 19, 3) := by decide +kernel
theorem dX1_doubleOfFloat_19 : decode cX1_doubleOfFloat 19 = .ok (.lreturn, 1) := by decide +kernel
theorem dX1_doubleOfFloat_20 : decode cX1_doubleOfFloat 20 = .ok (.lload_n 2, 1) := by decide +kernel
theorem dX1_doubleOfFloat_21 : decode cX1_doubleOfFloat 21 = .ok (.bipush 23, 2) := by decide +kernel
theorem dX1_doubleOfFloat_23 : decode cX1_doubleOfFloat 23 = .ok (.lushr, 1) := by decide +kernel
theorem dX1_doubleOfFloat_24 : decode cX1_doubleOfFloat 24 = .ok (.lstore 4, 2) := by decide +kernel
theorem dX1_doubleOfFloat_26 : decode cX1_doubleOfFloat 26 = .ok (.lload_n 2, 1) := by decide +kernel
theorem dX1_doubleOfFloat_27 : decode cX1_doubleOfFloat 27 = .ok (.bipush 23, 2) := by decide +kernel
theorem dX1_doubleOfFloat_29 : decode cX1_doubleOfFloat 29 = .ok (.invokestatic 9, 3) := by decide +kernel
theorem dX1_doubleOfFloat_32 : decode cX1_doubleOfFloat 32 = .ok (.land, 1) := by decide +kernel
theorem dX1_doubleOfFloat_33 : decode cX1_doubleOfFloat 33 = .ok (.lstore 6, 2) := by decide +kernel
theorem dX1_doubleOfFloat_35 : decode cX1_doubleOfFloat 35 = .ok (.lload_n 2, 1) := by decide +kernel
theorem dX1_doubleOfFloat_36 : decode cX1_doubleOfFloat 36 = .ok (.ldc2_w 13, 3) := by decide +kernel
theorem dX1_doubleOfFloat_39 : decode cX1_doubleOfFloat 39 = .ok (.lcmp, 1) := by decide +kernel
theorem dX1_doubleOfFloat_40 : decode cX1_doubleOfFloat 40 = .ok (.ifCond .ne 11, 3) := by decide +kernel
theorem dX1_doubleOfFloat_43 : decode cX1_doubleOfFloat 43 = .ok (.ldc2_w 17, 3) := by decide +kernel
theorem dX1_doubleOfFloat_46 : decode cX1_doubleOfFloat 46 = .ok (.lstore 8, 2) := by decide +kernel
theorem dX1_doubleOfFloat_48 : decode cX1_doubleOfFloat 48 = .ok (.goto 46, 3) := by decide +kernel
theorem dX1_doubleOfFloat_51 : decode cX1_doubleOfFloat 51 = .ok (.lload 4, 2) := by decide +kernel
theorem dX1_doubleOfFloat_53 : decode cX1_doubleOfFloat 53 = .ok (.lconst 0, 1) := by decide +kernel
theorem dX1_doubleOfFloat_54 : decode cX1_doubleOfFloat 54 = .ok (.lcmp, 1) := by decide +kernel
theorem dX1_doubleOfFloat_55 : decode cX1_doubleOfFloat 55 = .ok (.ifCond .ne 18, 3) := by decide +kernel
theorem dX1_doubleOfFloat_58 : decode cX1_doubleOfFloat 58 = .ok (.lload 6, 2) := by decide +kernel
theorem dX1_doubleOfFloat_60 : decode cX1_doubleOfFloat 60 = .ok (.bipush 52, 2) := by decide +kernel
theorem dX1_doubleOfFloat_62 : decode cX1_doubleOfFloat 62 = .ok (.sipush 874, 3) := by decide +kernel
theorem dX1_doubleOfFloat_65 : decode cX1_doubleOfFloat 65 = .ok (.invokestatic 34, 3) := by decide +kernel
theorem dX1_doubleOfFloat_68 : decode cX1_doubleOfFloat 68 = .ok (.lstore 8, 2) := by decide +kernel
theorem dX1_doubleOfFloat_70 : decode cX1_doubleOfFloat 70 = .ok (.goto 24, 3) := by decide +kernel
theorem dX1_doubleOfFloat_73 : decode cX1_doubleOfFloat 73 = .ok (.lload 4, 2) := by decide +kernel
theorem dX1_doubleOfFloat_75 : decode cX1_doubleOfFloat 75 = .ok (.ldc2_w 42, 3) := by decide +kernel
theorem dX1_doubleOfFloat_78 : decode cX1_doubleOfFloat 78 = .ok (.lsub, 1) := by decide +kernel
theorem dX1_doubleOfFloat_79 : decode cX1_doubleOfFloat 79 = .ok (.ldc2_w 44, 3) := by decide +kernel
theorem dX1_doubleOfFloat_82 : decode cX1_doubleOfFloat 82 = .ok (.ladd, 1) := by decide +kernel
theorem dX1_doubleOfFloat_83 : decode cX1_doubleOfFloat 83 = .ok (.bipush 52, 2) := by decide +kernel
theorem dX1_doubleOfFloat_85 : decode cX1_doubleOfFloat 85 = .ok (.lshl, 1) := by decide +kernel
theorem dX1_doubleOfFloat_86 : decode cX1_doubleOfFloat 86 = .ok (.lload 6, 2) := by decide +kernel
theorem dX1_doubleOfFloat_88 : decode cX1_doubleOfFloat 88 = .ok (.bipush 29, 2) := by decide +kernel
theorem dX1_doubleOfFloat_90 : decode cX1_doubleOfFloat 90 = .ok (.lshl, 1) := by decide +kernel
theorem dX1_doubleOfFloat_91 : decode cX1_doubleOfFloat 91 = .ok (.ladd, 1) := by decide +kernel
theorem dX1_doubleOfFloat_92 : decode cX1_doubleOfFloat 92 = .ok (.lstore 8, 2) := by decide +kernel
theorem dX1_doubleOfFloat_94 : decode cX1_doubleOfFloat 94 = .ok (.lload 8, 2) := by decide +kernel
theorem dX1_doubleOfFloat_96 : decode cX1_doubleOfFloat 96 = .ok (.lload_n 0, 1) := by decide +kernel
theorem dX1_doubleOfFloat_97 : decode cX1_doubleOfFloat 97 = .ok (.lconst 0, 1) := by decide +kernel
theorem dX1_doubleOfFloat_98 : decode cX1_doubleOfFloat 98 = .ok (.lcmp, 1) := by decide +kernel
theorem dX1_doubleOfFloat_99 : decode cX1_doubleOfFloat 99 = .ok (.ifCond .ge 7, 3) := by decide +kernel
theorem dX1_doubleOfFloat_102 : decode cX1_doubleOfFloat 102 = .ok (.iconst 1, 1) := by decide +kernel
theorem dX1_doubleOfFloat_103 : decode cX1_doubleOfFloat 103 = .ok (.goto 4, 3) := by decide +kernel
theorem dX1_doubleOfFloat_106 : decode cX1_doubleOfFloat 106 = .ok (.iconst 0, 1) := by decide +kernel
theorem dX1_doubleOfFloat_107 : decode cX1_doubleOfFloat 107 = .ok (.bipush 63, 2) := by decide +kernel
theorem dX1_doubleOfFloat_109 : decode cX1_doubleOfFloat 109 = .ok (.invokestatic 38, 3) := by decide +kernel
theorem dX1_doubleOfFloat_112 : decode cX1_doubleOfFloat 112 = .ok (.lreturn, 1) := by decide +kernel
theorem dX1_sizeOf_0 : decode cX1_sizeOf 0 = .ok (.lload_n 0, 1) := by decide +kernel
theorem dX1_sizeOf_1 : decode cX1_sizeOf 1 = .ok (.lconst 0, 1) := by decide +kernel
theorem dX1_sizeOf_2 : decode cX1_sizeOf 2 = .ok (.lcmp, 1) := by decide +kernel
theorem dX1_sizeOf_3 : decode cX1_sizeOf 3 = .ok (.ifCond .ge 8, 3) := by decide +kernel
theorem dX1_sizeOf_6 : decode cX1_sizeOf 6 = .ok (.lload_n 0, 1) := by decide +kernel
theorem dX1_sizeOf_7 : decode cX1_sizeOf 7 = .ok (.lneg, 1) := by decide +kernel
theorem dX1_sizeOf_8 : decode cX1_sizeOf 8 = .ok (.goto 4, 3) := by decide +kernel
theorem dX1_sizeOf_11 : decode cX1_sizeOf 11 = .ok (.lload_n 0, 1) := by decide +kernel
theorem dX1_sizeOf_12 : decode cX1_sizeOf 12 = .ok (.lreturn, 1) := by decide +kernel
set_option maxRecDepth 20000 in
theorem ggX1_nearest_J13_numberOfLeadingZeros_95d88 : GoodIn wsX1_nearest wsJ13_numberOfLeadingZeros_95d88 := goodIn_r _ [4, 5, 6, 7, 8, 9] (by decide +kernel) (by decide +kernel)
set_option maxRecDepth 20000 in
theorem gX1_nearest_J13_numberOfLeadingZeros_95d88 : GoodIn wsX1_nearest (va_wsS RX1 46 yJ13_numberOfLeadingZeros_95d88 wsJ13_numberOfLeadingZeros_95d88) := goodIn_app (goodIn_of _ (by decide +kernel)) ggX1_nearest_J13_numberOfLeadingZeros_95d88
set_option maxRecDepth 20000 in
theorem ggX1_nearest_X1_roundedOff : GoodIn wsX1_nearest wsX1_roundedOff := goodIn_r _ [13, 14, 15, 12, 16] (by decide +kernel) (by decide +kernel)
set_option maxRecDepth 20000 in
theorem gX1_nearest_X1_roundedOff : GoodIn wsX1_nearest (va_wsS RX1 52 yX1_roundedOff wsX1_roundedOff) := goodIn_app (goodIn_of _ (by decide +kernel)) ggX1_nearest_X1_roundedOff
theorem dX1_nearest_0 : decode cX1_nearest 0 = .ok (.lload_n 0, 1) := by decide +kernel
theorem dX1_nearest_1 : decode cX1_nearest 1 = .ok (.lconst 0, 1) := by decide +kernel
theorem dX1_nearest_2 : decode cX1_nearest 2 = .ok (.lcmp, 1) := by decide +kernel
theorem dX1_nearest_3 : decode cX1_nearest 3 = .ok (.ifCond .ne 5, 3) := by decide +kernel
theorem dX1_nearest_6 : decode cX1_nearest 6 = .ok (.lconst 0, 1) := by decide +kernel
theorem dX1_nearest_7 : decode cX1_nearest 7 = .ok (.lreturn, 1) := by decide +kernel
theorem dX1_nearest_8 : decode cX1_nearest 8 = .ok (.bipush 63, 2) := by decide +kernel
theorem dX1_nearest_10 : decode cX1_nearest 10 = .ok (.lload_n 0, 1) := by decide +kernel
theorem dX1_nearest_11 : decode cX1_nearest 11 = .ok (.invokestatic 46, 3) := by decide +kernel
theorem dX1_nearest_14 : decode cX1_nearest 14 = .ok (.isub, 1) := by decide +kernel
theorem dX1_nearest_15 : decode cX1_nearest 15 = .ok (.istore 4, 2) := by decide +kernel
theorem dX1_nearest_17 : decode cX1_nearest 17 = .ok (.iload 4, 2) := by decide +kernel
theorem dX1_nearest_19 : decode cX1_nearest 19 = .ok (.iload_n 2, 1) := by decide +kernel
theorem dX1_nearest_20 : decode cX1_nearest 20 = .ok (.if_icmp .gt 12, 3) := by decide +kernel
theorem dX1_nearest_23 : decode cX1_nearest 23 = .ok (.lload_n 0, 1) := by decide +kernel
theorem dX1_nearest_24 : decode cX1_nearest 24 = .ok (.iload_n 2, 1) := by decide +kernel
theorem dX1_nearest_25 : decode cX1_nearest 25 = .ok (.iload 4, 2) := by decide +kernel
theorem dX1_nearest_27 : decode cX1_nearest 27 = .ok (.isub, 1) := by decide +kernel
theorem dX1_nearest_28 : decode cX1_nearest 28 = .ok (.lshl, 1) := by decide +kernel
theorem dX1_nearest_29 : decode cX1_nearest 29 = .ok (.goto 11, 3) := by decide +kernel
theorem dX1_nearest_32 : decode cX1_nearest 32 = .ok (.lload_n 0, 1) := by decide +kernel
theorem dX1_nearest_33 : decode cX1_nearest 33 = .ok (.iload 4, 2) := by decide +kernel
theorem dX1_nearest_35 : decode cX1_nearest 35 = .ok (.iload_n 2, 1) := by decide +kernel
theorem dX1_nearest_36 : decode cX1_nearest 36 = .ok (.isub, 1) := by decide +kernel
theorem dX1_nearest_37 : decode cX1_nearest 37 = .ok (.invokestatic 52, 3) := by decide +kernel
theorem dX1_nearest_40 : decode cX1_nearest 40 = .ok (.lstore 5, 2) := by decide +kernel
theorem dX1_nearest_42 : decode cX1_nearest 42 = .ok (.iload 4, 2) := by decide +kernel
theorem dX1_nearest_44 : decode cX1_nearest 44 = .ok (.iload_n 3, 1) := by decide +kernel
theorem dX1_nearest_45 : decode cX1_nearest 45 = .ok (.iadd, 1) := by decide +kernel
theorem dX1_nearest_46 : decode cX1_nearest 46 = .ok (.iconst 1, 1) := by decide +kernel
theorem dX1_nearest_47 : decode cX1_nearest 47 = .ok (.isub, 1) := by decide +kernel
theorem dX1_nearest_48 : decode cX1_nearest 48 = .ok (.i2l, 1) := by decide +kernel
theorem dX1_nearest_49 : decode cX1_nearest 49 = .ok (.iload_n 2, 1) := by decide +kernel
theorem dX1_nearest_50 : decode cX1_nearest 50 = .ok (.lshl, 1) := by decide +kernel
theorem dX1_nearest_51 : decode cX1_nearest 51 = .ok (.lload 5, 2) := by decide +kernel
theorem dX1_nearest_53 : decode cX1_nearest 53 = .ok (.ladd, 1) := by decide +kernel
theorem dX1_nearest_54 : decode cX1_nearest 54 = .ok (.lreturn, 1) := by decide +kernel
set_option maxRecDepth 20000 in
theorem ggX1_roundedOff_X1_lowBits : GoodIn wsX1_roundedOff wsX1_lowBits := goodIn_r _ [4] (by decide +kernel) (by decide +kernel)
set_option maxRecDepth 20000 in
theorem gX1_roundedOff_X1_lowBits : GoodIn wsX1_roundedOff (va_wsS RX1 9 yX1_lowBits wsX1_lowBits) := goodIn_app (goodIn_of _ (by decide +kernel)) ggX1_roundedOff_X1_lowBits
theorem dX1_roundedOff_0 : decode cX1_roundedOff 0 = .ok (.lload_n 0, 1) := by decide +kernel
theorem dX1_roundedOff_1 : decode cX1_roundedOff 1 = .ok (.iload_n 2, 1) := by decide +kernel
theorem dX1_roundedOff_2 : decode cX1_roundedOff 2 = .ok (.lushr, 1) := by decide +kernel
theorem dX1_roundedOff_3 : decode cX1_roundedOff 3 = .ok (.lstore_n 3, 1) := by decide +kernel
theorem dX1_roundedOff_4 : decode cX1_roundedOff 4 = .ok (.lload_n 0, 1) := by decide +kernel
theorem dX1_roundedOff_5 : decode cX1_roundedOff 5 = .ok (.iload_n 2, 1) := by decide +kernel
theorem dX1_roundedOff_6 : decode cX1_roundedOff 6 = .ok (.invokestatic 9, 3) := by decide +kernel
theorem dX1_roundedOff_9 : decode cX1_roundedOff 9 = .ok (.land, 1) := by decide +kernel
theorem dX1_roundedOff_10 : decode cX1_roundedOff 10 = .ok (.lstore 5, 2) := by decide +kernel
theorem dX1_roundedOff_12 : decode cX1_roundedOff 12 = .ok (.lconst 1, 1) := by decide +kernel
theorem dX1_roundedOff_13 : decode cX1_roundedOff 13 = .ok (.iload_n 2, 1) := by decide +kernel
theorem dX1_roundedOff_14 : decode cX1_roundedOff 14 = .ok (.iconst 1, 1) := by decide +kernel
theorem dX1_roundedOff_15 : decode cX1_roundedOff 15 = .ok (.isub, 1) := by decide +kernel
theorem dX1_roundedOff_16 : decode cX1_roundedOff 16 = .ok (.lshl, 1) := by decide +kernel
theorem dX1_roundedOff_17 : decode cX1_roundedOff 17 = .ok (.lstore 7, 2) := by decide +kernel
theorem dX1_roundedOff_19 : decode cX1_roundedOff 19 = .ok (.lload 5, 2) := by decide +kernel
theorem dX1_roundedOff_21 : decode cX1_roundedOff 21 = .ok (.lload 7, 2) := by decide +kernel
theorem dX1_roundedOff_23 : decode cX1_roundedOff 23 = .ok (.lcmp, 1) := by decide +kernel
theorem dX1_roundedOff_24 : decode cX1_roundedOff 24 = .ok (.ifCond .gt 19, 3) := by decide +kernel
theorem dX1_roundedOff_27 : decode cX1_roundedOff 27 = .ok (.lload 5, 2) := by decide +kernel
theorem dX1_roundedOff_29 : decode cX1_roundedOff 29 = .ok (.lload 7, 2) := by decide +kernel
theorem dX1_roundedOff_31 : decode cX1_roundedOff 31 = .ok (.lcmp, 1) := by decide +kernel
theorem dX1_roundedOff_32 : decode cX1_roundedOff 32 = .ok (.ifCond .ne 15, 3) := by decide +kernel
theorem dX1_roundedOff_35 : decode cX1_roundedOff 35 = .ok (.lload_n 3, 1) := by decide +kernel
theorem dX1_roundedOff_36 : decode cX1_roundedOff 36 = .ok (.lconst 1, 1) := by decide +kernel
theorem dX1_roundedOff_37 : decode cX1_roundedOff 37 = .ok (.land, 1) := by decide +kernel
theorem dX1_roundedOff_38 : decode cX1_roundedOff 38 = .ok (.lconst 1, 1) := by decide +kernel
theorem dX1_roundedOff_39 : decode cX1_roundedOff 39 = .ok (.lcmp, 1) := by decide +kernel
theorem dX1_roundedOff_40 : decode cX1_roundedOff 40 = .ok (.ifCond .ne 7, 3) := by decide +kernel
theorem dX1_roundedOff_43 : decode cX1_roundedOff 43 = .ok (.iconst 1, 1) := by decide +kernel
theorem dX1_roundedOff_44 : decode cX1_roundedOff 44 = .ok (.goto 4, 3) := by decide +kernel
theorem dX1_roundedOff_47 : decode cX1_roundedOff 47 = .ok (.iconst 0, 1) := by decide +kernel
theorem dX1_roundedOff_48 : decode cX1_roundedOff 48 = .ok (.istore 9, 2) := by decide +kernel
theorem dX1_roundedOff_50 : decode cX1_roundedOff 50 = .ok (.iload 9, 2) := by decide +kernel
theorem dX1_roundedOff_52 : decode cX1_roundedOff 52 = .ok (.ifCond .eq 9, 3) := by decide +kernel
theorem dX1_roundedOff_55 : decode cX1_roundedOff 55 = .ok (.lload_n 3, 1) := by decide +kernel
theorem dX1_roundedOff_56 : decode cX1_roundedOff 56 = .ok (.lconst 1, 1) := by decide +kernel
theorem dX1_roundedOff_57 : decode cX1_roundedOff 57 = .ok (.ladd, 1) := by decide +kernel
theorem dX1_roundedOff_58 : decode cX1_roundedOff 58 = .ok (.goto 4, 3) := by decide +kernel
theorem dX1_roundedOff_61 : decode cX1_roundedOff 61 = .ok (.lload_n 3, 1) := by decide +kernel
theorem dX1_roundedOff_62 : decode cX1_roundedOff 62 = .ok (.lreturn, 1) := by decide +kernel
theorem dX1_lowBits_0 : decode cX1_lowBits 0 = .ok (.lconst 1, 1) := by decide +kernel
theorem dX1_lowBits_1 : decode cX1_lowBits 1 = .ok (.iload_n 0, 1) := by decide +kernel
theorem dX1_lowBits_2 : decode cX1_lowBits 2 = .ok (.lshl, 1) := by decide +kernel
theorem dX1_lowBits_3 : decode cX1_lowBits 3 = .ok (.lconst 1, 1) := by decide +kernel
theorem dX1_lowBits_4 : decode cX1_lowBits 4 = .ok (.lsub, 1) := by decide +kernel
theorem dX1_lowBits_5 : decode cX1_lowBits 5 = .ok (.lreturn, 1) := by decide +kernel
theorem dX1_withSign_0 : decode cX1_withSign 0 = .ok (.iload_n 2, 1) := by decide +kernel
theorem dX1_withSign_1 : decode cX1_withSign 1 = .ok (.ifCond .eq 13, 3) := by decide +kernel
theorem dX1_withSign_4 : decode cX1_withSign 4 = .ok (.lload_n 0, 1) := by decide +kernel
theorem dX1_withSign_5 : decode cX1_withSign 5 = .ok (.ldc2_w 56, 3) := by decide +kernel
theorem dX1_withSign_8 : decode cX1_withSign 8 = .ok (.iload_n 3, 1) := by decide +kernel
theorem dX1_withSign_9 : decode cX1_withSign 9 = .ok (.lshl, 1) := by decide +kernel
theorem dX1_withSign_10 : decode cX1_withSign 10 = .ok (.lor, 1) := by decide +kernel
theorem dX1_withSign_11 : decode cX1_withSign 11 = .ok (.goto 4, 3) := by decide +kernel
theorem dX1_withSign_14 : decode cX1_withSign 14 = .ok (.lload_n 0, 1) := by decide +kernel
theorem dX1_withSign_15 : decode cX1_withSign 15 = .ok (.lreturn, 1) := by decide +kernel
theorem dX2_init_0 : decode cX2_init 0 = .ok (.aload_n 0, 1) := by decide +kernel
theorem dX2_init_1 : decode cX2_init 1 = .ok (.invokespecial 3, 3) := by decide +kernel
theorem dX2_init_4 : decode cX2_init 4 = .ok (.aload_n 0, 1) := by decide +kernel
theorem dX2_init_5 : decode cX2_init 5 = .ok (.iload_n 1, 1) := by decide +kernel
theorem dX2_init_6 : decode cX2_init 6 = .ok (.putfield 9, 3) := by decide +kernel
theorem dX2_init_9 : decode cX2_init 9 = .ok (.aload_n 0, 1) := by decide +kernel
theorem dX2_init_10 : decode cX2_init 10 = .ok (.iload_n 2, 1) := by decide +kernel
theorem dX2_init_11 : decode cX2_init 11 = .ok (.putfield 15, 3) := by decide +kernel
theorem dX2_init_14 : decode cX2_init 14 = .ok (.aload_n 0, 1) := by decide +kernel
theorem dX2_init_15 : decode cX2_init 15 = .ok (.iload_n 3, 1) := by decide +kernel
theorem dX2_init_16 : decode cX2_init 16 = .ok (.putfield 18, 3) := by decide +kernel
theorem dX2_init_19 : decode cX2_init 19 = .ok (.aload_n 0, 1) := by decide +kernel
theorem dX2_init_20 : decode cX2_init 20 = .ok (.iload_n 2, 1) := by decide +kernel
theorem dX2_init_21 : decode cX2_init 21 = .ok (.iconst 1, 1) := by decide +kernel
theorem dX2_init_22 : decode cX2_init 22 = .ok (.if_icmp .ne 7, 3) := by decide +kernel
theorem dX2_init_25 : decode cX2_init 25 = .ok (.iload_n 3, 1) := by decide +kernel
theorem dX2_init_26 : decode cX2_init 26 = .ok (.goto 4, 3) := by decide +kernel
theorem dX2_init_29 : decode cX2_init 29 = .ok (.iconst 0, 1) := by decide +kernel
theorem dX2_init_30 : decode cX2_init 30 = .ok (.newarray .long, 2) := by decide +kernel
theorem dX2_init_32 : decode cX2_init 32 = .ok (.putfield 21, 3) := by decide +kernel
theorem dX2_init_35 : decode cX2_init 35 = .ok (.aload_n 0, 1) := by decide +kernel
theorem dX2_init_36 : decode cX2_init 36 = .ok (.iload_n 2, 1) := by decide +kernel
theorem dX2_init_37 : decode cX2_init 37 = .ok (.iconst 1, 1) := by decide +kernel
theorem dX2_init_38 : decode cX2_init 38 = .ok (.if_icmp .ne 7, 3) := by decide +kernel
theorem dX2_init_41 : decode cX2_init 41 = .ok (.iconst 0, 1) := by decide +kernel
theorem dX2_init_42 : decode cX2_init 42 = .ok (.goto 4, 3) := by decide +kernel
theorem dX2_init_45 : decode cX2_init 45 = .ok (.iload_n 3, 1) := by decide +kernel
theorem dX2_init_46 : decode cX2_init 46 = .ok (.anewarray 10, 3) := by decide +kernel
theorem dX2_init_49 : decode cX2_init 49 = .ok (.putfield 25, 3) := by decide +kernel
theorem dX2_init_52 : decode cX2_init 52 = .ok (.return_, 1) := by decide +kernel
theorem dX2_hasNumbers_0 : decode cX2_hasNumbers 0 = .ok (.aload_n 0, 1) := by decide +kernel
theorem dX2_hasNumbers_1 : decode cX2_hasNumbers 1 = .ok (.getfield 15, 3) := by decide +kernel
theorem dX2_hasNumbers_4 : decode cX2_hasNumbers 4 = .ok (.iconst 1, 1) := by decide +kernel
theorem dX2_hasNumbers_5 : decode cX2_hasNumbers 5 = .ok (.if_icmp .ne 7, 3) := by decide +kernel
theorem dX2_hasNumbers_8 : decode cX2_hasNumbers 8 = .ok (.iconst 1, 1) := by decide +kernel
theorem dX2_hasNumbers_9 : decode cX2_hasNumbers 9 = .ok (.goto 4, 3) := by decide +kernel
theorem dX2_hasNumbers_12 : decode cX2_hasNumbers 12 = .ok (.iconst 0, 1) := by decide +kernel
theorem dX2_hasNumbers_13 : decode cX2_hasNumbers 13 = .ok (.ireturn, 1) := by decide +kernel
theorem dX2_hasPlace_0 : decode cX2_hasPlace 0 = .ok (.iload_n 1, 1) := by decide +kernel
theorem dX2_hasPlace_1 : decode cX2_hasPlace 1 = .ok (.ifCond .lt 15, 3) := by decide +kernel
theorem dX2_hasPlace_4 : decode cX2_hasPlace 4 = .ok (.iload_n 1, 1) := by decide +kernel
theorem dX2_hasPlace_5 : decode cX2_hasPlace 5 = .ok (.aload_n 0, 1) := by decide +kernel
theorem dX2_hasPlace_6 : decode cX2_hasPlace 6 = .ok (.getfield 18, 3) := by decide +kernel
theorem dX2_hasPlace_9 : decode cX2_hasPlace 9 = .ok (.if_icmp .ge 7, 3) := by decide +kernel
theorem dX2_hasPlace_12 : decode cX2_hasPlace 12 = .ok (.iconst 1, 1) := by decide +kernel
theorem dX2_hasPlace_13 : decode cX2_hasPlace 13 = .ok (.goto 4, 3) := by decide +kernel
theorem dX2_hasPlace_16 : decode cX2_hasPlace 16 = .ok (.iconst 0, 1) := by decide +kernel
theorem dX2_hasPlace_17 : decode cX2_hasPlace 17 = .ok (.ireturn, 1) := by decide +kernel
set_option maxRecDepth 20000 in
theorem ggX2_causeToRead_X2_causeAtNumber : GoodIn wsX2_causeToRead wsX2_causeAtNumber := goodIn_r _ [6, 7, 8, 9, 5, 10, 11, 12, 13, 14, 15, 16, 17, 18, 19, 20, 21, 22, 23, 24, 25] (by decide +kernel) (by decide +kernel)
set_option maxRecDepth 20000 in
theorem gX2_causeToRead_X2_causeAtNumber : GoodIn wsX2_causeToRead (wsV RX2 29 RX2 yX2_causeAtNumber wsX2_causeAtNumber) := goodIn_app (goodIn_of _ (by decide +kernel)) ggX2_causeToRead_X2_causeAtNumber
theorem dX2_causeToRead_0 : decode cX2_causeToRead 0 = .ok (.aload_n 0, 1) := by decide +kernel
theorem dX2_causeToRead_1 : decode cX2_causeToRead 1 = .ok (.iload_n 1, 1) := by decide +kernel
theorem dX2_causeToRead_2 : decode cX2_causeToRead 2 = .ok (.aload_n 0, 1) := by decide +kernel
theorem dX2_causeToRead_3 : decode cX2_causeToRead 3 = .ok (.getfield 9, 3) := by decide +kernel
theorem dX2_causeToRead_6 : decode cX2_causeToRead 6 = .ok (.iload_n 2, 1) := by decide +kernel
theorem dX2_causeToRead_7 : decode cX2_causeToRead 7 = .ok (.invokevirtual 29, 3) := by decide +kernel
theorem dX2_causeToRead_10 : decode cX2_causeToRead 10 = .ok (.ireturn, 1) := by decide +kernel
set_option maxRecDepth 20000 in
theorem ggX2_causeToWrite_X2_causeAtNumber : GoodIn wsX2_causeToWrite wsX2_causeAtNumber := goodIn_r _ [6, 7, 8, 9, 5, 10, 11, 12, 13, 14, 15, 16, 17, 18, 19, 20, 21, 22, 23, 24, 25] (by decide +kernel) (by decide +kernel)
set_option maxRecDepth 20000 in
theorem gX2_causeToWrite_X2_causeAtNumber : GoodIn wsX2_causeToWrite (wsV RX2 29 RX2 yX2_causeAtNumber wsX2_causeAtNumber) := goodIn_app (goodIn_of _ (by decide +kernel)) ggX2_causeToWrite_X2_causeAtNumber
theorem dX2_causeToWrite_0 : decode cX2_causeToWrite 0 = .ok (.aload_n 0, 1) := by decide +kernel
theorem dX2_causeToWrite_1 : decode cX2_causeToWrite 1 = .ok (.iload_n 1, 1) := by decide +kernel
theorem dX2_causeToWrite_2 : decode cX2_causeToWrite 2 = .ok (.iload_n 2, 1) := by decide +kernel
theorem dX2_causeToWrite_3 : decode cX2_causeToWrite 3 = .ok (.aload_n 0, 1) := by decide +kernel
theorem dX2_causeToWrite_4 : decode cX2_causeToWrite 4 = .ok (.getfield 9, 3) := by decide +kernel
theorem dX2_causeToWrite_7 : decode cX2_causeToWrite 7 = .ok (.invokevirtual 29, 3) := by decide +kernel
theorem dX2_causeToWrite_10 : decode cX2_causeToWrite 10 = .ok (.ireturn, 1) := by decide +kernel
set_option maxRecDepth 20000 in
theorem ggX2_causeAtNumber_X2_hasNumbers : GoodIn wsX2_causeAtNumber wsX2_hasNumbers := goodIn_r _ [5, 6, 16, 17, 18, 19, 20] (by decide +kernel) (by decide +kernel)
set_option maxRecDepth 20000 in
theorem gX2_causeAtNumber_X2_hasNumbers : GoodIn wsX2_causeAtNumber (wsV RX2 33 RX2 yX2_hasNumbers wsX2_hasNumbers) := goodIn_app (goodIn_of _ (by decide +kernel)) ggX2_causeAtNumber_X2_hasNumbers
set_option maxRecDepth 20000 in
theorem ggX2_causeAtNumber_X2_hasPlace : GoodIn wsX2_causeAtNumber wsX2_hasPlace := goodIn_r _ [10, 11, 16, 17, 18, 19, 20] (by decide +kernel) (by decide +kernel)
set_option maxRecDepth 20000 in
theorem gX2_causeAtNumber_X2_hasPlace : GoodIn wsX2_causeAtNumber (wsV RX2 37 RX2 yX2_hasPlace wsX2_hasPlace) := goodIn_app (goodIn_of _ (by decide +kernel)) ggX2_causeAtNumber_X2_hasPlace
set_option maxRecDepth 20000 in
theorem ggX2_causeAtNumber_X1_goesInto : GoodIn wsX2_causeAtNumber wsX1_goesInto := goodIn_r _ [15] (by decide +kernel) (by decide +kernel)
set_option maxRecDepth 20000 in
theorem gX2_causeAtNumber_X1_goesInto : GoodIn wsX2_causeAtNumber (va_wsS RX2 41 yX1_goesInto wsX1_goesInto) := goodIn_app (goodIn_of _ (by decide +kernel)) ggX2_causeAtNumber_X1_goesInto
theorem dX2_causeAtNumber_0 : decode cX2_causeAtNumber 0 = .ok (.aload_n 0, 1) := by decide +kernel
theorem dX2_causeAtNumber_1 : decode cX2_causeAtNumber 1 = .ok (.invokevirtual 33, 3) := by decide +kernel
theorem dX2_causeAtNumber_4 : decode cX2_causeAtNumber 4 = .ok (.ifCond .ne 5, 3) := by decide +kernel
theorem dX2_causeAtNumber_7 : decode cX2_causeAtNumber 7 = .ok (.iconst 2, 1) := by decide +kernel
theorem dX2_causeAtNumber_8 : decode cX2_causeAtNumber 8 = .ok (.ireturn, 1) := by decide +kernel
theorem dX2_causeAtNumber_9 : decode cX2_causeAtNumber 9 = .ok (.aload_n 0, 1) := by decide +kernel
theorem dX2_causeAtNumber_10 : decode cX2_causeAtNumber 10 = .ok (.iload_n 1, 1) := by decide +kernel
theorem dX2_causeAtNumber_11 : decode cX2_causeAtNumber 11 = .ok (.invokevirtual 37, 3) := by decide +kernel
theorem dX2_causeAtNumber_14 : decode cX2_causeAtNumber 14 = .ok (.ifCond .ne 5, 3) := by decide +kernel
theorem dX2_causeAtNumber_17 : decode cX2_causeAtNumber 17 = .ok (.iconst 3, 1) := by decide +kernel
theorem dX2_causeAtNumber_18 : decode cX2_causeAtNumber 18 = .ok (.ireturn, 1) := by decide +kernel
theorem dX2_causeAtNumber_19 : decode cX2_causeAtNumber 19 = .ok (.iload_n 2, 1) := by decide +kernel
theorem dX2_causeAtNumber_20 : decode cX2_causeAtNumber 20 = .ok (.iload_n 3, 1) := by decide +kernel
theorem dX2_causeAtNumber_21 : decode cX2_causeAtNumber 21 = .ok (.invokestatic 41, 3) := by decide +kernel
theorem dX2_causeAtNumber_24 : decode cX2_causeAtNumber 24 = .ok (.ifCond .eq 7, 3) := by decide +kernel
theorem dX2_causeAtNumber_27 : decode cX2_causeAtNumber 27 = .ok (.iconst 0, 1) := by decide +kernel
theorem dX2_causeAtNumber_28 : decode cX2_causeAtNumber 28 = .ok (.goto 4, 3) := by decide +kernel
theorem dX2_causeAtNumber_31 : decode cX2_causeAtNumber 31 = .ok (.iconst 4, 1) := by decide +kernel
theorem dX2_causeAtNumber_32 : decode cX2_causeAtNumber 32 = .ok (.ireturn, 1) := by decide +kernel
set_option maxRecDepth 20000 in
theorem ggX2_causeToHang_X2_hasNumbers : GoodIn wsX2_causeToHang wsX2_hasNumbers := goodIn_r _ [7, 2, 13, 14, 15, 16, 17] (by decide +kernel) (by decide +kernel)
set_option maxRecDepth 20000 in
theorem gX2_causeToHang_X2_hasNumbers : GoodIn wsX2_causeToHang (wsV RX2 33 RX2 yX2_hasNumbers wsX2_hasNumbers) := goodIn_app (goodIn_of _ (by decide +kernel)) ggX2_causeToHang_X2_hasNumbers
set_option maxRecDepth 20000 in
theorem ggX2_causeToHang_X2_hasPlace : GoodIn wsX2_causeToHang wsX2_hasPlace := goodIn_r _ [11, 12, 13, 14, 15, 16, 17] (by decide +kernel) (by decide +kernel)
set_option maxRecDepth 20000 in
theorem gX2_causeToHang_X2_hasPlace : GoodIn wsX2_causeToHang (wsV RX2 37 RX2 yX2_hasPlace wsX2_hasPlace) := goodIn_app (goodIn_of _ (by decide +kernel)) ggX2_causeToHang_X2_hasPlace
theorem dX2_causeToHang_0 : decode cX2_causeToHang 0 = .ok (.aload_n 0, 1) := by decide +kernel
theorem dX2_causeToHang_1 : decode cX2_causeToHang 1 = .ok (.invokevirtual 33, 3) := by decide +kernel
theorem dX2_causeToHang_4 : decode cX2_causeToHang 4 = .ok (.ifCond .eq 9, 3) := by decide +kernel
theorem dX2_causeToHang_7 : decode cX2_causeToHang 7 = .ok (.aload_n 2, 1) := by decide +kernel
theorem dX2_causeToHang_8 : decode cX2_causeToHang 8 = .ok (.ifnonnull 5, 3) := by decide +kernel
theorem dX2_causeToHang_11 : decode cX2_causeToHang 11 = .ok (.iconst 4, 1) := by decide +kernel
theorem dX2_causeToHang_12 : decode cX2_causeToHang 12 = .ok (.ireturn, 1) := by decide +kernel
theorem dX2_causeToHang_13 : decode cX2_causeToHang 13 = .ok (.aload_n 0, 1) := by decide +kernel
theorem dX2_causeToHang_14 : decode cX2_causeToHang 14 = .ok (.iload_n 1, 1) := by decide +kernel
theorem dX2_causeToHang_15 : decode cX2_causeToHang 15 = .ok (.invokevirtual 37, 3) := by decide +kernel
theorem dX2_causeToHang_18 : decode cX2_causeToHang 18 = .ok (.ifCond .ne 5, 3) := by decide +kernel
theorem dX2_causeToHang_21 : decode cX2_causeToHang 21 = .ok (.iconst 3, 1) := by decide +kernel
theorem dX2_causeToHang_22 : decode cX2_causeToHang 22 = .ok (.ireturn, 1) := by decide +kernel
theorem dX2_causeToHang_23 : decode cX2_causeToHang 23 = .ok (.aload_n 2, 1) := by decide +kernel
theorem dX2_causeToHang_24 : decode cX2_causeToHang 24 = .ok (.ifnonnull 5, 3) := by decide +kernel
theorem dX2_causeToHang_27 : decode cX2_causeToHang 27 = .ok (.iconst 0, 1) := by decide +kernel
theorem dX2_causeToHang_28 : decode cX2_causeToHang 28 = .ok (.ireturn, 1) := by decide +kernel
theorem dX2_causeToHang_29 : decode cX2_causeToHang 29 = .ok (.aload_n 2, 1) := by decide +kernel
theorem dX2_causeToHang_30 : decode cX2_causeToHang 30 = .ok (.getfield 9, 3) := by decide +kernel
theorem dX2_causeToHang_33 : decode cX2_causeToHang 33 = .ok (.aload_n 0, 1) := by decide +kernel
theorem dX2_causeToHang_34 : decode cX2_causeToHang 34 = .ok (.getfield 9, 3) := by decide +kernel
theorem dX2_causeToHang_37 : decode cX2_causeToHang 37 = .ok (.if_icmp .ne 20, 3) := by decide +kernel
theorem dX2_causeToHang_40 : decode cX2_causeToHang 40 = .ok (.aload_n 2, 1) := by decide +kernel
theorem dX2_causeToHang_41 : decode cX2_causeToHang 41 = .ok (.getfield 15, 3) := by decide +kernel
theorem dX2_causeToHang_44 : decode cX2_causeToHang 44 = .ok (.aload_n 0, 1) := by decide +kernel
theorem dX2_causeToHang_45 : decode cX2_causeToHang 45 = .ok (.getfield 15, 3) := by decide +kernel
theorem dX2_causeToHang_48 : decode cX2_causeToHang 48 = .ok (.iconst 1, 1) := by decide +kernel
theorem dX2_causeToHang_49 : decode cX2_causeToHang 49 = .ok (.isub, 1) := by decide +kernel
theorem dX2_causeToHang_50 : decode cX2_causeToHang 50 = .ok (.if_icmp .ne 7, 3) := by decide +kernel
theorem dX2_causeToHang_53 : decode cX2_causeToHang 53 = .ok (.iconst 0, 1) := by decide +kernel
theorem dX2_causeToHang_54 : decode cX2_causeToHang 54 = .ok (.goto 4, 3) := by decide +kernel
theorem dX2_causeToHang_57 : decode cX2_causeToHang 57 = .ok (.iconst 4, 1) := by decide +kernel
theorem dX2_causeToHang_58 : decode cX2_causeToHang 58 = .ok (.ireturn, 1) := by decide +kernel
set_option maxRecDepth 20000 in
theorem ggX2_causeToPour_X2_hasNumbers : GoodIn wsX2_causeToPour wsX2_hasNumbers := goodIn_r _ [7, 8, 22, 23, 24, 25, 26] (by decide +kernel) (by decide +kernel)
set_option maxRecDepth 20000 in
theorem gX2_causeToPour_X2_hasNumbers : GoodIn wsX2_causeToPour (wsV RX2 33 RX2 yX2_hasNumbers wsX2_hasNumbers) := goodIn_app (goodIn_of _ (by decide +kernel)) ggX2_causeToPour_X2_hasNumbers
set_option maxRecDepth 20000 in
theorem ggX2_causeToPour_X2_causeToHang : GoodIn wsX2_causeToPour wsX2_causeToHang := goodIn_r _ [12, 2, 8, 3, 4, 5, 6, 7, 13, 14, 15, 16, 17, 22, 23, 24, 25, 26] (by decide +kernel) (by decide +kernel)
set_option maxRecDepth 20000 in
theorem gX2_causeToPour_X2_causeToHang : GoodIn wsX2_causeToPour (wsV RX2 47 RX2 yX2_causeToHang wsX2_causeToHang) := goodIn_app (goodIn_of _ (by decide +kernel)) ggX2_causeToPour_X2_causeToHang
set_option maxRecDepth 20000 in
theorem ggX2_causeToPour_X2_hasPlace : GoodIn wsX2_causeToPour wsX2_hasPlace := goodIn_r _ [16, 17, 22, 23, 24, 25, 26] (by decide +kernel) (by decide +kernel)
set_option maxRecDepth 20000 in
theorem gX2_causeToPour_X2_hasPlace : GoodIn wsX2_causeToPour (wsV RX2 37 RX2 yX2_hasPlace wsX2_hasPlace) := goodIn_app (goodIn_of _ (by decide +kernel)) ggX2_causeToPour_X2_hasPlace
set_option maxRecDepth 20000 in
theorem ggX2_causeToPour_X1_goesInto : GoodIn wsX2_causeToPour wsX1_goesInto := goodIn_r _ [21] (by decide +kernel) (by decide +kernel)
set_option maxRecDepth 20000 in
theorem gX2_causeToPour_X1_goesInto : GoodIn wsX2_causeToPour (va_wsS RX2 41 yX1_goesInto wsX1_goesInto) := goodIn_app (goodIn_of _ (by decide +kernel)) ggX2_causeToPour_X1_goesInto
theorem dX2_causeToPour_0 : decode cX2_causeToPour 0 = .ok (.aload_n 2, 1) := by decide +kernel
theorem dX2_causeToPour_1 : decode cX2_causeToPour 1 = .ok (.invokevirtual 33, 3) := by decide +kernel
theorem dX2_causeToPour_4 : decode cX2_causeToPour 4 = .ok (.ifCond .ne 15, 3) := by decide +kernel
theorem dX2_causeToPour_7 : decode cX2_causeToPour 7 = .ok (.aload_n 0, 1) := by decide +kernel
theorem dX2_causeToPour_8 : decode cX2_causeToPour 8 = .ok (.iload_n 1, 1) := by decide +kernel
theorem dX2_causeToPour_9 : decode cX2_causeToPour 9 = .ok (.aload_n 2, 1) := by decide +kernel
theorem dX2_causeToPour_10 : decode cX2_causeToPour 10 = .ok (.getfield 25, 3) := by decide +kernel
theorem dX2_causeToPour_13 : decode cX2_causeToPour 13 = .ok (.iload_n 1, 1) := by decide +kernel
theorem dX2_causeToPour_14 : decode cX2_causeToPour 14 = .ok (.aaload, 1) := by decide +kernel
theorem dX2_causeToPour_15 : decode cX2_causeToPour 15 = .ok (.invokevirtual 47, 3) := by decide +kernel
theorem dX2_causeToPour_18 : decode cX2_causeToPour 18 = .ok (.ireturn, 1) := by decide +kernel
theorem dX2_causeToPour_19 : decode cX2_causeToPour 19 = .ok (.aload_n 0, 1) := by decide +kernel
theorem dX2_causeToPour_20 : decode cX2_causeToPour 20 = .ok (.iload_n 1, 1) := by decide +kernel
theorem dX2_causeToPour_21 : decode cX2_causeToPour 21 = .ok (.invokevirtual 37, 3) := by decide +kernel
theorem dX2_causeToPour_24 : decode cX2_causeToPour 24 = .ok (.ifCond .ne 5, 3) := by decide +kernel
theorem dX2_causeToPour_27 : decode cX2_causeToPour 27 = .ok (.iconst 3, 1) := by decide +kernel
theorem dX2_causeToPour_28 : decode cX2_causeToPour 28 = .ok (.ireturn, 1) := by decide +kernel
theorem dX2_causeToPour_29 : decode cX2_causeToPour 29 = .ok (.aload_n 0, 1) := by decide +kernel
theorem dX2_causeToPour_30 : decode cX2_causeToPour 30 = .ok (.invokevirtual 33, 3) := by decide +kernel
theorem dX2_causeToPour_33 : decode cX2_causeToPour 33 = .ok (.ifCond .eq 21, 3) := by decide +kernel
theorem dX2_causeToPour_36 : decode cX2_causeToPour 36 = .ok (.aload_n 2, 1) := by decide +kernel
theorem dX2_causeToPour_37 : decode cX2_causeToPour 37 = .ok (.getfield 9, 3) := by decide +kernel
theorem dX2_causeToPour_40 : decode cX2_causeToPour 40 = .ok (.aload_n 0, 1) := by decide +kernel
theorem dX2_causeToPour_41 : decode cX2_causeToPour 41 = .ok (.getfield 9, 3) := by decide +kernel
theorem dX2_causeToPour_44 : decode cX2_causeToPour 44 = .ok (.invokestatic 41, 3) := by decide +kernel
theorem dX2_causeToPour_47 : decode cX2_causeToPour 47 = .ok (.ifCond .eq 7, 3) := by decide +kernel
theorem dX2_causeToPour_50 : decode cX2_causeToPour 50 = .ok (.iconst 0, 1) := by decide +kernel
theorem dX2_causeToPour_51 : decode cX2_causeToPour 51 = .ok (.goto 4, 3) := by decide +kernel
theorem dX2_causeToPour_54 : decode cX2_causeToPour 54 = .ok (.iconst 4, 1) := by decide +kernel
theorem dX2_causeToPour_55 : decode cX2_causeToPour 55 = .ok (.ireturn, 1) := by decide +kernel
set_option maxRecDepth 20000 in
theorem ggX2_pourIn_X2_hasNumbers : GoodIn wsX2_pourIn wsX2_hasNumbers := goodIn_r _ [8, 9, 53, 54, 55, 56, 57] (by decide +kernel) (by decide +kernel)
set_option maxRecDepth 20000 in
theorem gX2_pourIn_X2_hasNumbers : GoodIn wsX2_pourIn (wsV RX2 33 RX2 yX2_hasNumbers wsX2_hasNumbers) := goodIn_app (goodIn_of _ (by decide +kernel)) ggX2_pourIn_X2_hasNumbers
set_option maxRecDepth 20000 in
theorem ggX2_pourIn_X1_asKind : GoodIn wsX2_pourIn wsX1_asKind := goodIn_r _ [13, 14, 15, 12, 16, 17, 18, 19, 20, 21, 22, 23, 24, 25, 26, 27, 28, 29, 30, 31, 32, 33, 34, 35, 36, 37, 38, 39, 40, 41, 42, 43, 44, 45, 46, 47, 48, 49, 50, 51, 52] (by decide +kernel) (by decide +kernel)
set_option maxRecDepth 20000 in
theorem gX2_pourIn_X1_asKind : GoodIn wsX2_pourIn (va_wsS RX2 51 yX1_asKind wsX1_asKind) := goodIn_app (goodIn_of _ (by decide +kernel)) ggX2_pourIn_X1_asKind
theorem dX2_pourIn_0 : decode cX2_pourIn 0 = .ok (.aload_n 0, 1) := by decide +kernel
theorem dX2_pourIn_1 : decode cX2_pourIn 1 = .ok (.invokevirtual 33, 3) := by decide +kernel
theorem dX2_pourIn_4 : decode cX2_pourIn 4 = .ok (.ifCond .eq 29, 3) := by decide +kernel
theorem dX2_pourIn_7 : decode cX2_pourIn 7 = .ok (.aload_n 0, 1) := by decide +kernel
theorem dX2_pourIn_8 : decode cX2_pourIn 8 = .ok (.getfield 21, 3) := by decide +kernel
theorem dX2_pourIn_11 : decode cX2_pourIn 11 = .ok (.iload_n 1, 1) := by decide +kernel
theorem dX2_pourIn_12 : decode cX2_pourIn 12 = .ok (.aload_n 2, 1) := by decide +kernel
theorem dX2_pourIn_13 : decode cX2_pourIn 13 = .ok (.getfield 21, 3) := by decide +kernel
theorem dX2_pourIn_16 : decode cX2_pourIn 16 = .ok (.iload_n 1, 1) := by decide +kernel
theorem dX2_pourIn_17 : decode cX2_pourIn 17 = .ok (.laload, 1) := by decide +kernel
theorem dX2_pourIn_18 : decode cX2_pourIn 18 = .ok (.aload_n 2, 1) := by decide +kernel
theorem dX2_pourIn_19 : decode cX2_pourIn 19 = .ok (.getfield 9, 3) := by decide +kernel
theorem dX2_pourIn_22 : decode cX2_pourIn 22 = .ok (.aload_n 0, 1) := by decide +kernel
theorem dX2_pourIn_23 : decode cX2_pourIn 23 = .ok (.getfield 9, 3) := by decide +kernel
theorem dX2_pourIn_26 : decode cX2_pourIn 26 = .ok (.invokestatic 51, 3) := by decide +kernel
theorem dX2_pourIn_29 : decode cX2_pourIn 29 = .ok (.lastore, 1) := by decide +kernel
theorem dX2_pourIn_30 : decode cX2_pourIn 30 = .ok (.goto 15, 3) := by decide +kernel
theorem dX2_pourIn_33 : decode cX2_pourIn 33 = .ok (.aload_n 0, 1) := by decide +kernel
theorem dX2_pourIn_34 : decode cX2_pourIn 34 = .ok (.getfield 25, 3) := by decide +kernel
theorem dX2_pourIn_37 : decode cX2_pourIn 37 = .ok (.iload_n 1, 1) := by decide +kernel
theorem dX2_pourIn_38 : decode cX2_pourIn 38 = .ok (.aload_n 2, 1) := by decide +kernel
theorem dX2_pourIn_39 : decode cX2_pourIn 39 = .ok (.getfield 25, 3) := by decide +kernel
theorem dX2_pourIn_42 : decode cX2_pourIn 42 = .ok (.iload_n 1, 1) := by decide +kernel
theorem dX2_pourIn_43 : decode cX2_pourIn 43 = .ok (.aaload, 1) := by decide +kernel
theorem dX2_pourIn_44 : decode cX2_pourIn 44 = .ok (.aastore, 1) := by decide +kernel
theorem dX2_pourIn_45 : decode cX2_pourIn 45 = .ok (.return_, 1) := by decide +kernel
set_option maxRecDepth 20000 in
theorem ggX2_exchange_X2_hasNumbers : GoodIn wsX2_exchange wsX2_hasNumbers := goodIn_r _ [7, 8, 9, 10, 11, 12, 13] (by decide +kernel) (by decide +kernel)
set_option maxRecDepth 20000 in
theorem gX2_exchange_X2_hasNumbers : GoodIn wsX2_exchange (wsV RX2 33 RX2 yX2_hasNumbers wsX2_hasNumbers) := goodIn_app (goodIn_of _ (by decide +kernel)) ggX2_exchange_X2_hasNumbers
theorem dX2_exchange_0 : decode cX2_exchange 0 = .ok (.aload_n 0, 1) := by decide +kernel
theorem dX2_exchange_1 : decode cX2_exchange 1 = .ok (.invokevirtual 33, 3) := by decide +kernel
theorem dX2_exchange_4 : decode cX2_exchange 4 = .ok (.ifCond .eq 32, 3) := by decide +kernel
theorem dX2_exchange_7 : decode cX2_exchange 7 = .ok (.aload_n 0, 1) := by decide +kernel
theorem dX2_exchange_8 : decode cX2_exchange 8 = .ok (.getfield 21, 3) := by decide +kernel
theorem dX2_exchange_11 : decode cX2_exchange 11 = .ok (.iload_n 1, 1) := by decide +kernel
theorem dX2_exchange_12 : decode cX2_exchange 12 = .ok (.laload, 1) := by decide +kernel
theorem dX2_exchange_13 : decode cX2_exchange 13 = .ok (.lstore_n 3, 1) := by decide +kernel
theorem dX2_exchange_14 : decode cX2_exchange 14 = .ok (.aload_n 0, 1) := by decide +kernel
theorem dX2_exchange_15 : decode cX2_exchange 15 = .ok (.getfield 21, 3) := by decide +kernel
theorem dX2_exchange_18 : decode cX2_exchange 18 = .ok (.iload_n 1, 1) := by decide +kernel
theorem dX2_exchange_19 : decode cX2_exchange 19 = .ok (.aload_n 0, 1) := by decide +kernel
theorem dX2_exchange_20 : decode cX2_exchange 20 = .ok (.getfield 21, 3) := by decide +kernel
theorem dX2_exchange_23 : decode cX2_exchange 23 = .ok (.iload_n 2, 1) := by decide +kernel
theorem dX2_exchange_24 : decode cX2_exchange 24 = .ok (.laload, 1) := by decide +kernel
theorem dX2_exchange_25 : decode cX2_exchange 25 = .ok (.lastore, 1) := by decide +kernel
theorem dX2_exchange_26 : decode cX2_exchange 26 = .ok (.aload_n 0, 1) := by decide +kernel
theorem dX2_exchange_27 : decode cX2_exchange 27 = .ok (.getfield 21, 3) := by decide +kernel
theorem dX2_exchange_30 : decode cX2_exchange 30 = .ok (.iload_n 2, 1) := by decide +kernel
theorem dX2_exchange_31 : decode cX2_exchange 31 = .ok (.lload_n 3, 1) := by decide +kernel
theorem dX2_exchange_32 : decode cX2_exchange 32 = .ok (.lastore, 1) := by decide +kernel
theorem dX2_exchange_33 : decode cX2_exchange 33 = .ok (.goto 29, 3) := by decide +kernel
theorem dX2_exchange_36 : decode cX2_exchange 36 = .ok (.aload_n 0, 1) := by decide +kernel
theorem dX2_exchange_37 : decode cX2_exchange 37 = .ok (.getfield 25, 3) := by decide +kernel
theorem dX2_exchange_40 : decode cX2_exchange 40 = .ok (.iload_n 1, 1) := by decide +kernel
theorem dX2_exchange_41 : decode cX2_exchange 41 = .ok (.aaload, 1) := by decide +kernel
theorem dX2_exchange_42 : decode cX2_exchange 42 = .ok (.astore_n 3, 1) := by decide +kernel
theorem dX2_exchange_43 : decode cX2_exchange 43 = .ok (.aload_n 0, 1) := by decide +kernel
theorem dX2_exchange_44 : decode cX2_exchange 44 = .ok (.getfield 25, 3) := by decide +kernel
theorem dX2_exchange_47 : decode cX2_exchange 47 = .ok (.iload_n 1, 1) := by decide +kernel
theorem dX2_exchange_48 : decode cX2_exchange 48 = .ok (.aload_n 0, 1) := by decide +kernel
theorem dX2_exchange_49 : decode cX2_exchange 49 = .ok (.getfield 25, 3) := by decide +kernel
theorem dX2_exchange_52 : decode cX2_exchange 52 = .ok (.iload_n 2, 1) := by decide +kernel
theorem dX2_exchange_53 : decode cX2_exchange 53 = .ok (.aaload, 1) := by decide +kernel
theorem dX2_exchange_54 : decode cX2_exchange 54 = .ok (.aastore, 1) := by decide +kernel
theorem dX2_exchange_55 : decode cX2_exchange 55 = .ok (.aload_n 0, 1) := by decide +kernel
theorem dX2_exchange_56 : decode cX2_exchange 56 = .ok (.getfield 25, 3) := by decide +kernel
theorem dX2_exchange_59 : decode cX2_exchange 59 = .ok (.iload_n 2, 1) := by decide +kernel
theorem dX2_exchange_60 : decode cX2_exchange 60 = .ok (.aload_n 3, 1) := by decide +kernel
theorem dX2_exchange_61 : decode cX2_exchange 61 = .ok (.aastore, 1) := by decide +kernel
theorem dX2_exchange_62 : decode cX2_exchange 62 = .ok (.return_, 1) := by decide +kernel
