theorem dX4_init_0 : decode cX4_init 0 = .ok (.aload_n 0, 1) := by decide +kernel
theorem dX4_init_1 : decode cX4_init 1 = .ok (.invokespecial 1, 3) := by decide +kernel
theorem dX4_init_4 : decode cX4_init 4 = .ok (.aload_n 0, 1) := by decide +kernel
theorem dX4_init_5 : decode cX4_init 5 = .ok (.bipush 120, 2) := by decide +kernel
theorem dX4_init_7 : decode cX4_init 7 = .ok (.newarray .int, 2) := by decide +kernel
theorem dX4_init_9 : decode cX4_init 9 = .ok (.putfield 7, 3) := by decide +kernel
theorem dX4_init_12 : decode cX4_init 12 = .ok (.aload_n 0, 1) := by decide +kernel
theorem dX4_init_13 : decode cX4_init 13 = .ok (.bipush 120, 2) := by decide +kernel
theorem dX4_init_15 : decode cX4_init 15 = .ok (.newarray .int, 2) := by decide +kernel
theorem dX4_init_17 : decode cX4_init 17 = .ok (.putfield 13, 3) := by decide +kernel
theorem dX4_init_20 : decode cX4_init 20 = .ok (.aload_n 0, 1) := by decide +kernel
theorem dX4_init_21 : decode cX4_init 21 = .ok (.bipush 120, 2) := by decide +kernel
theorem dX4_init_23 : decode cX4_init 23 = .ok (.newarray .int, 2) := by decide +kernel
theorem dX4_init_25 : decode cX4_init 25 = .ok (.putfield 16, 3) := by decide +kernel
theorem dX4_init_28 : decode cX4_init 28 = .ok (.aload_n 0, 1) := by decide +kernel
theorem dX4_init_29 : decode cX4_init 29 = .ok (.sipush 960, 3) := by decide +kernel
theorem dX4_init_32 : decode cX4_init 32 = .ok (.newarray .long, 2) := by decide +kernel
theorem dX4_init_34 : decode cX4_init 34 = .ok (.putfield 19, 3) := by decide +kernel
theorem dX4_init_37 : decode cX4_init 37 = .ok (.aload_n 0, 1) := by decide +kernel
theorem dX4_init_38 : decode cX4_init 38 = .ok (.sipush 960, 3) := by decide +kernel
theorem dX4_init_41 : decode cX4_init 41 = .ok (.newarray .int, 2) := by decide +kernel
theorem dX4_init_43 : decode cX4_init 43 = .ok (.putfield 23, 3) := by decide +kernel
theorem dX4_init_46 : decode cX4_init 46 = .ok (.aload_n 0, 1) := by decide +kernel
theorem dX4_init_47 : decode cX4_init 47 = .ok (.bipush 10, 2) := by decide +kernel
theorem dX4_init_49 : decode cX4_init 49 = .ok (.newarray .int, 2) := by decide +kernel
theorem dX4_init_51 : decode cX4_init 51 = .ok (.dup, 1) := by decide +kernel
theorem dX4_init_52 : decode cX4_init 52 = .ok (.iconst 0, 1) := by decide +kernel
theorem dX4_init_53 : decode cX4_init 53 = .ok (.iconst (-1), 1) := by decide +kernel
theorem dX4_init_54 : decode cX4_init 54 = .ok (.iastore, 1) := by decide +kernel
theorem dX4_init_55 : decode cX4_init 55 = .ok (.dup, 1) := by decide +kernel
theorem dX4_init_56 : decode cX4_init 56 = .ok (.iconst 1, 1) := by decide +kernel
theorem dX4_init_57 : decode cX4_init 57 = .ok (.iconst (-1), 1) := by decide +kernel
theorem dX4_init_58 : decode cX4_init 58 = .ok (.iastore, 1) := by decide +kernel
theorem dX4_init_59 : decode cX4_init 59 = .ok (.dup, 1) := by decide +kernel
theorem dX4_init_60 : decode cX4_init 60 = .ok (.iconst 2, 1) := by decide +kernel
theorem dX4_init_61 : decode cX4_init 61 = .ok (.iconst (-1), 1) := by decide +kernel
theorem dX4_init_62 : decode cX4_init 62 = .ok (.iastore, 1) := by decide +kernel
theorem dX4_init_63 : decode cX4_init 63 = .ok (.dup, 1) := by decide +kernel
theorem dX4_init_64 : decode cX4_init 64 = .ok (.iconst 3, 1) := by decide +kernel
theorem dX4_init_65 : decode cX4_init 65 = .ok (.iconst (-1), 1) := by decide +kernel
theorem dX4_init_66 : decode cX4_init 66 = .ok (.iastore, 1) := by decide +kernel
theorem dX4_init_67 : decode cX4_init 67 = .ok (.dup, 1) := by decide +kernel
theorem dX4_init_68 : decode cX4_init 68 = .ok (.iconst 4, 1) := by decide +kernel
theorem dX4_init_69 : decode cX4_init 69 = .ok (.iconst (-1), 1) := by decide +kernel
theorem dX4_init_70 : decode cX4_init 70 = .ok (.iastore, 1) := by decide +kernel
theorem dX4_init_71 : decode cX4_init 71 = .ok (.dup, 1) := by decide +kernel
theorem dX4_init_72 : decode cX4_init 72 = .ok (.iconst 5, 1) := by decide +kernel
theorem dX4_init_73 : decode cX4_init 73 = .ok (.iconst (-1), 1) := by decide +kernel
theorem dX4_init_74 : decode cX4_init 74 = .ok (.iastore, 1) := by decide +kernel
theorem dX4_init_75 : decode cX4_init 75 = .ok (.dup, 1) := by decide +kernel
theorem dX4_init_76 : decode cX4_init 76 = .ok (.bipush 6, 2) := by decide +kernel
theorem dX4_init_78 : decode cX4_init 78 = .ok (.iconst (-1), 1) := by decide +kernel
theorem dX4_init_79 : decode cX4_init 79 = .ok (.iastore, 1) := by decide +kernel
theorem dX4_init_80 : decode cX4_init 80 = .ok (.dup, 1) := by decide +kernel
theorem dX4_init_81 : decode cX4_init 81 = .ok (.bipush 7, 2) := by decide +kernel
theorem dX4_init_83 : decode cX4_init 83 = .ok (.iconst (-1), 1) := by decide +kernel
theorem dX4_init_84 : decode cX4_init 84 = .ok (.iastore, 1) := by decide +kernel
theorem dX4_init_85 : decode cX4_init 85 = .ok (.dup, 1) := by decide +kernel
theorem dX4_init_86 : decode cX4_init 86 = .ok (.bipush 8, 2) := by decide +kernel
theorem dX4_init_88 : decode cX4_init 88 = .ok (.iconst (-1), 1) := by decide +kernel
theorem dX4_init_89 : decode cX4_init 89 = .ok (.iastore, 1) := by decide +kernel
theorem dX4_init_90 : decode cX4_init 90 = .ok (.dup, 1) := by decide +kernel
theorem dX4_init_91 : decode cX4_init 91 = .ok (.bipush 9, 2) := by decide +kernel
theorem dX4_init_93 : decode cX4_init 93 = .ok (.iconst (-1), 1) := by decide +kernel
theorem dX4_init_94 : decode cX4_init 94 = .ok (.iastore, 1) := by decide +kernel
theorem dX4_init_95 : decode cX4_init 95 = .ok (.putfield 26, 3) := by decide +kernel
theorem dX4_init_98 : decode cX4_init 98 = .ok (.aload_n 0, 1) := by decide +kernel
theorem dX4_init_99 : decode cX4_init 99 = .ok (.bipush 6, 2) := by decide +kernel
theorem dX4_init_101 : decode cX4_init 101 = .ok (.newarray .int, 2) := by decide +kernel
theorem dX4_init_103 : decode cX4_init 103 = .ok (.putfield 29, 3) := by decide +kernel
theorem dX4_init_106 : decode cX4_init 106 = .ok (.aload_n 0, 1) := by decide +kernel
theorem dX4_init_107 : decode cX4_init 107 = .ok (.iconst 0, 1) := by decide +kernel
theorem dX4_init_108 : decode cX4_init 108 = .ok (.putfield 32, 3) := by decide +kernel
theorem dX4_init_111 : decode cX4_init 111 = .ok (.return_, 1) := by decide +kernel
theorem dX4_in_0 : decode cX4_in 0 = .ok (.iload_n 0, 1) := by decide +kernel
theorem dX4_in_1 : decode cX4_in 1 = .ok (.iload_n 1, 1) := by decide +kernel
theorem dX4_in_2 : decode cX4_in 2 = .ok (.if_icmp .lt 12, 3) := by decide +kernel
theorem dX4_in_5 : decode cX4_in 5 = .ok (.iload_n 0, 1) := by decide +kernel
theorem dX4_in_6 : decode cX4_in 6 = .ok (.iload_n 2, 1) := by decide +kernel
theorem dX4_in_7 : decode cX4_in 7 = .ok (.if_icmp .gt 7, 3) := by decide +kernel
theorem dX4_in_10 : decode cX4_in 10 = .ok (.iconst 1, 1) := by decide +kernel
theorem dX4_in_11 : decode cX4_in 11 = .ok (.goto 4, 3) := by decide +kernel
theorem dX4_in_14 : decode cX4_in 14 = .ok (.iconst 0, 1) := by decide +kernel
theorem dX4_in_15 : decode cX4_in 15 = .ok (.ireturn, 1) := by decide +kernel
set_option maxRecDepth 20000 in
theorem ggX4_isBox_X4_in : GoodIn wsX4_isBox wsX4_in := goodIn_r _ [4] (by decide +kernel) (by decide +kernel)
set_option maxRecDepth 20000 in
theorem gX4_isBox_X4_in : GoodIn wsX4_isBox (va_wsS RX4 36 yX4_in wsX4_in) := goodIn_app (goodIn_of _ (by decide +kernel)) ggX4_isBox_X4_in
theorem dX4_isBox_0 : decode cX4_isBox 0 = .ok (.iload_n 0, 1) := by decide +kernel
theorem dX4_isBox_1 : decode cX4_isBox 1 = .ok (.iconst 0, 1) := by decide +kernel
theorem dX4_isBox_2 : decode cX4_isBox 2 = .ok (.bipush 9, 2) := by decide +kernel
theorem dX4_isBox_4 : decode cX4_isBox 4 = .ok (.invokestatic 36, 3) := by decide +kernel
theorem dX4_isBox_7 : decode cX4_isBox 7 = .ok (.ireturn, 1) := by decide +kernel
set_option maxRecDepth 20000 in
theorem ggX4_isKind_X4_in : GoodIn wsX4_isKind wsX4_in := goodIn_r _ [4] (by decide +kernel) (by decide +kernel)
set_option maxRecDepth 20000 in
theorem gX4_isKind_X4_in : GoodIn wsX4_isKind (va_wsS RX4 36 yX4_in wsX4_in) := goodIn_app (goodIn_of _ (by decide +kernel)) ggX4_isKind_X4_in
theorem dX4_isKind_0 : decode cX4_isKind 0 = .ok (.iload_n 0, 1) := by decide +kernel
theorem dX4_isKind_1 : decode cX4_isKind 1 = .ok (.iconst 0, 1) := by decide +kernel
theorem dX4_isKind_2 : decode cX4_isKind 2 = .ok (.bipush 7, 2) := by decide +kernel
theorem dX4_isKind_4 : decode cX4_isKind 4 = .ok (.invokestatic 36, 3) := by decide +kernel
theorem dX4_isKind_7 : decode cX4_isKind 7 = .ok (.ireturn, 1) := by decide +kernel
theorem dX4_fails_0 : decode cX4_fails 0 = .ok (.aload_n 0, 1) := by decide +kernel
theorem dX4_fails_1 : decode cX4_fails 1 = .ok (.getfield 29, 3) := by decide +kernel
theorem dX4_fails_4 : decode cX4_fails 4 = .ok (.iload_n 1, 1) := by decide +kernel
theorem dX4_fails_5 : decode cX4_fails 5 = .ok (.dup2, 1) := by decide +kernel
theorem dX4_fails_6 : decode cX4_fails 6 = .ok (.iaload, 1) := by decide +kernel
theorem dX4_fails_7 : decode cX4_fails 7 = .ok (.iconst 1, 1) := by decide +kernel
theorem dX4_fails_8 : decode cX4_fails 8 = .ok (.iadd, 1) := by decide +kernel
theorem dX4_fails_9 : decode cX4_fails 9 = .ok (.iastore, 1) := by decide +kernel
theorem dX4_fails_10 : decode cX4_fails 10 = .ok (.bipush (-10), 2) := by decide +kernel
theorem dX4_fails_12 : decode cX4_fails 12 = .ok (.iload_n 1, 1) := by decide +kernel
theorem dX4_fails_13 : decode cX4_fails 13 = .ok (.isub, 1) := by decide +kernel
theorem dX4_fails_14 : decode cX4_fails 14 = .ok (.ireturn, 1) := by decide +kernel
theorem dX4_goesInto_0 : decode cX4_goesInto 0 = .ok (.iload_n 0, 1) := by decide +kernel
theorem dX4_goesInto_1 : decode cX4_goesInto 1 = .ok (.iload_n 1, 1) := by decide +kernel
theorem dX4_goesInto_2 : decode cX4_goesInto 2 = .ok (.if_icmp .ne 5, 3) := by decide +kernel
theorem dX4_goesInto_5 : decode cX4_goesInto 5 = .ok (.iconst 1, 1) := by decide +kernel
theorem dX4_goesInto_6 : decode cX4_goesInto 6 = .ok (.ireturn, 1) := by decide +kernel
theorem dX4_goesInto_7 : decode cX4_goesInto 7 = .ok (.iload_n 0, 1) := by decide +kernel
theorem dX4_goesInto_8 : decode cX4_goesInto 8 = .ok (.ifCond .eq 13, 3) := by decide +kernel
theorem dX4_goesInto_11 : decode cX4_goesInto 11 = .ok (.iload_n 1, 1) := by decide +kernel
theorem dX4_goesInto_12 : decode cX4_goesInto 12 = .ok (.iconst 2, 1) := by decide +kernel
theorem dX4_goesInto_13 : decode cX4_goesInto 13 = .ok (.if_icmp .lt 8, 3) := by decide +kernel
theorem dX4_goesInto_16 : decode cX4_goesInto 16 = .ok (.iload_n 1, 1) := by decide +kernel
theorem dX4_goesInto_17 : decode cX4_goesInto 17 = .ok (.iconst 3, 1) := by decide +kernel
theorem dX4_goesInto_18 : decode cX4_goesInto 18 = .ok (.if_icmp .ne 5, 3) := by decide +kernel
theorem dX4_goesInto_21 : decode cX4_goesInto 21 = .ok (.iconst 0, 1) := by decide +kernel
theorem dX4_goesInto_22 : decode cX4_goesInto 22 = .ok (.ireturn, 1) := by decide +kernel
theorem dX4_goesInto_23 : decode cX4_goesInto 23 = .ok (.iload_n 1, 1) := by decide +kernel
theorem dX4_goesInto_24 : decode cX4_goesInto 24 = .ok (.iload_n 0, 1) := by decide +kernel
theorem dX4_goesInto_25 : decode cX4_goesInto 25 = .ok (.if_icmp .le 7, 3) := by decide +kernel
theorem dX4_goesInto_28 : decode cX4_goesInto 28 = .ok (.iconst 1, 1) := by decide +kernel
theorem dX4_goesInto_29 : decode cX4_goesInto 29 = .ok (.goto 4, 3) := by decide +kernel
theorem dX4_goesInto_32 : decode cX4_goesInto 32 = .ok (.iconst 0, 1) := by decide +kernel
theorem dX4_goesInto_33 : decode cX4_goesInto 33 = .ok (.ireturn, 1) := by decide +kernel
theorem dX4_ofBits_0 : decode cX4_ofBits 0 = .ok (.iload_n 0, 1) := by decide +kernel
theorem dX4_ofBits_1 : decode cX4_ofBits 1 = .ok (.tableswitch 89 0 6 #[43, 47, 52, 57, 63, 67, 69], 43) := by decide +kernel
theorem dX4_ofBits_44 : decode cX4_ofBits 44 = .ok (.lload_n 1, 1) := by decide +kernel
theorem dX4_ofBits_45 : decode cX4_ofBits 45 = .ok (.lconst 1, 1) := by decide +kernel
theorem dX4_ofBits_46 : decode cX4_ofBits 46 = .ok (.land, 1) := by decide +kernel
theorem dX4_ofBits_47 : decode cX4_ofBits 47 = .ok (.lreturn, 1) := by decide +kernel
theorem dX4_ofBits_48 : decode cX4_ofBits 48 = .ok (.lload_n 1, 1) := by decide +kernel
theorem dX4_ofBits_49 : decode cX4_ofBits 49 = .ok (.l2i, 1) := by decide +kernel
theorem dX4_ofBits_50 : decode cX4_ofBits 50 = .ok (.i2b, 1) := by decide +kernel
theorem dX4_ofBits_51 : decode cX4_ofBits 51 = .ok (.i2l, 1) := by decide +kernel
theorem dX4_ofBits_52 : decode cX4_ofBits 52 = .ok (.lreturn, 1) := by decide +kernel
theorem dX4_ofBits_53 : decode cX4_ofBits 53 = .ok (.lload_n 1, 1) := by decide +kernel
theorem dX4_ofBits_54 : decode cX4_ofBits 54 = .ok (.l2i, 1) := by decide +kernel
theorem dX4_ofBits_55 : decode cX4_ofBits 55 = .ok (.i2s, 1) := by decide +kernel
theorem dX4_ofBits_56 : decode cX4_ofBits 56 = .ok (.i2l, 1) := by decide +kernel
theorem dX4_ofBits_57 : decode cX4_ofBits 57 = .ok (.lreturn, 1) := by decide +kernel
theorem dX4_ofBits_58 : decode cX4_ofBits 58 = .ok (.lload_n 1, 1) := by decide +kernel
theorem dX4_ofBits_59 : decode cX4_ofBits 59 = .ok (.ldc2_w 40, 3) := by decide +kernel
theorem dX4_ofBits_62 : decode cX4_ofBits 62 = .ok (.land, 1) := by decide +kernel
theorem dX4_ofBits_63 : decode cX4_ofBits 63 = .ok (.lreturn, 1) := by decide +kernel
theorem dX4_ofBits_64 : decode cX4_ofBits 64 = .ok (.lload_n 1, 1) := by decide +kernel
theorem dX4_ofBits_65 : decode cX4_ofBits 65 = .ok (.l2i, 1) := by decide +kernel
theorem dX4_ofBits_66 : decode cX4_ofBits 66 = .ok (.i2l, 1) := by decide +kernel
theorem dX4_ofBits_67 : decode cX4_ofBits 67 = .ok (.lreturn, 1) := by decide +kernel
theorem dX4_ofBits_68 : decode cX4_ofBits 68 = .ok (.lload_n 1, 1) := by decide +kernel
theorem dX4_ofBits_69 : decode cX4_ofBits 69 = .ok (.lreturn, 1) := by decide +kernel
theorem dX4_ofBits_70 : decode cX4_ofBits 70 = .ok (.lload_n 1, 1) := by decide +kernel
theorem dX4_ofBits_71 : decode cX4_ofBits 71 = .ok (.l2i, 1) := by decide +kernel
theorem dX4_ofBits_72 : decode cX4_ofBits 72 = .ok (.ldc 42, 2) := by decide +kernel
theorem dX4_ofBits_74 : decode cX4_ofBits 74 = .ok (.iand, 1) := by decide +kernel
theorem dX4_ofBits_75 : decode cX4_ofBits 75 = .ok (.ldc 43, 2) := by decide +kernel
theorem dX4_ofBits_77 : decode cX4_ofBits 77 = .ok (.if_icmp .le 9, 3) := by decide +kernel
theorem dX4_ofBits_80 : decode cX4_ofBits 80 = .ok (.ldc2_w 44, 3) := by decide +kernel
theorem dX4_ofBits_83 : decode cX4_ofBits 83 = .ok (.goto 6, 3) := by decide +kernel
theorem dX4_ofBits_86 : decode cX4_ofBits 86 = .ok (.lload_n 1, 1) := by decide +kernel
theorem dX4_ofBits_87 : decode cX4_ofBits 87 = .ok (.l2i, 1) := by decide +kernel
theorem dX4_ofBits_88 : decode cX4_ofBits 88 = .ok (.i2l, 1) := by decide +kernel
theorem dX4_ofBits_89 : decode cX4_ofBits 89 = .ok (.lreturn, 1) := by decide +kernel
theorem dX4_ofBits_90 : decode cX4_ofBits 90 = .ok (.lload_n 1, 1) := by decide +kernel
theorem dX4_ofBits_91 : decode cX4_ofBits 91 = .ok (.ldc2_w 46, 3) := by decide +kernel
theorem dX4_ofBits_94 : decode cX4_ofBits 94 = .ok (.land, 1) := by decide +kernel
theorem dX4_ofBits_95 : decode cX4_ofBits 95 = .ok (.ldc2_w 48, 3) := by decide +kernel
theorem dX4_ofBits_98 : decode cX4_ofBits 98 = .ok (.lcmp, 1) := by decide +kernel
theorem dX4_ofBits_99 : decode cX4_ofBits 99 = .ok (.ifCond .le 9, 3) := by decide +kernel
theorem dX4_ofBits_102 : decode cX4_ofBits 102 = .ok (.ldc2_w 50, 3) := by decide +kernel
theorem dX4_ofBits_105 : decode cX4_ofBits 105 = .ok (.goto 4, 3) := by decide +kernel
theorem dX4_ofBits_108 : decode cX4_ofBits 108 = .ok (.lload_n 1, 1) := by decide +kernel
theorem dX4_ofBits_109 : decode cX4_ofBits 109 = .ok (.lreturn, 1) := by decide +kernel
set_option maxRecDepth 20000 in
theorem ggX4_as_Jxe99ae_doubleToLongBits_ccdee : GoodIn wsX4_as wsJxe99ae_doubleToLongBits_ccdee := goodIn_r _ [10, 11, 12, 13, 14, 15, 16, 17, 9, 18] (by decide +kernel) (by decide +kernel)
set_option maxRecDepth 20000 in
theorem gX4_as_Jxe99ae_doubleToLongBits_ccdee : GoodIn wsX4_as (va_wsS RX4 58 yJxe99ae_doubleToLongBits_ccdee wsJxe99ae_doubleToLongBits_ccdee) := goodIn_app (goodIn_of _ (by decide +kernel)) ggX4_as_Jxe99ae_doubleToLongBits_ccdee
set_option maxRecDepth 20000 in
theorem ggX4_as_Jxf58ca_floatToIntBits_5c35a : GoodIn wsX4_as wsJxf58ca_floatToIntBits_5c35a := goodIn_r _ [22, 23, 24, 25, 4, 26, 27, 28, 21, 29] (by decide +kernel) (by decide +kernel)
set_option maxRecDepth 20000 in
theorem gX4_as_Jxf58ca_floatToIntBits_5c35a : GoodIn wsX4_as (va_wsS RX4 64 yJxf58ca_floatToIntBits_5c35a wsJxf58ca_floatToIntBits_5c35a) := goodIn_app (goodIn_of _ (by decide +kernel)) ggX4_as_Jxf58ca_floatToIntBits_5c35a
theorem dX4_as_0 : decode cX4_as 0 = .ok (.iload_n 0, 1) := by decide +kernel
theorem dX4_as_1 : decode cX4_as 1 = .ok (.iload_n 1, 1) := by decide +kernel
theorem dX4_as_2 : decode cX4_as 2 = .ok (.if_icmp .eq 9, 3) := by decide +kernel
theorem dX4_as_5 : decode cX4_as 5 = .ok (.iload_n 1, 1) := by decide +kernel
theorem dX4_as_6 : decode cX4_as 6 = .ok (.bipush 6, 2) := by decide +kernel
theorem dX4_as_8 : decode cX4_as 8 = .ok (.if_icmp .ge 5, 3) := by decide +kernel
theorem dX4_as_11 : decode cX4_as 11 = .ok (.lload_n 2, 1) := by decide +kernel
theorem dX4_as_12 : decode cX4_as 12 = .ok (.lreturn, 1) := by decide +kernel
theorem dX4_as_13 : decode cX4_as 13 = .ok (.iload_n 0, 1) := by decide +kernel
theorem dX4_as_14 : decode cX4_as 14 = .ok (.bipush 6, 2) := by decide +kernel
theorem dX4_as_16 : decode cX4_as 16 = .ok (.if_icmp .ne 31, 3) := by decide +kernel
theorem dX4_as_19 : decode cX4_as 19 = .ok (.lload_n 2, 1) := by decide +kernel
theorem dX4_as_20 : decode cX4_as 20 = .ok (.l2i, 1) := by decide +kernel
theorem dX4_as_21 : decode cX4_as 21 = .ok (.invokestatic 52, 3) := by decide +kernel
theorem dX4_as_24 : decode cX4_as 24 = .ok (.fstore 4, 2) := by decide +kernel
theorem dX4_as_26 : decode cX4_as 26 = .ok (.lload_n 2, 1) := by decide +kernel
theorem dX4_as_27 : decode cX4_as 27 = .ok (.ldc2_w 44, 3) := by decide +kernel
theorem dX4_as_30 : decode cX4_as 30 = .ok (.lcmp, 1) := by decide +kernel
theorem dX4_as_31 : decode cX4_as 31 = .ok (.ifCond .ne 9, 3) := by decide +kernel
theorem dX4_as_34 : decode cX4_as 34 = .ok (.ldc2_w 50, 3) := by decide +kernel
theorem dX4_as_37 : decode cX4_as 37 = .ok (.goto 9, 3) := by decide +kernel
theorem dX4_as_40 : decode cX4_as 40 = .ok (.fload 4, 2) := by decide +kernel
theorem dX4_as_42 : decode cX4_as 42 = .ok (.f2d, 1) := by decide +kernel
theorem dX4_as_43 : decode cX4_as 43 = .ok (.invokestatic 58, 3) := by decide +kernel
theorem dX4_as_46 : decode cX4_as 46 = .ok (.lreturn, 1) := by decide +kernel
theorem dX4_as_47 : decode cX4_as 47 = .ok (.iload_n 1, 1) := by decide +kernel
theorem dX4_as_48 : decode cX4_as 48 = .ok (.bipush 6, 2) := by decide +kernel
theorem dX4_as_50 : decode cX4_as 50 = .ok (.if_icmp .ne 12, 3) := by decide +kernel
theorem dX4_as_53 : decode cX4_as 53 = .ok (.lload_n 2, 1) := by decide +kernel
theorem dX4_as_54 : decode cX4_as 54 = .ok (.l2f, 1) := by decide +kernel
theorem dX4_as_55 : decode cX4_as 55 = .ok (.invokestatic 64, 3) := by decide +kernel
theorem dX4_as_58 : decode cX4_as 58 = .ok (.i2l, 1) := by decide +kernel
theorem dX4_as_59 : decode cX4_as 59 = .ok (.goto 8, 3) := by decide +kernel
theorem dX4_as_62 : decode cX4_as 62 = .ok (.lload_n 2, 1) := by decide +kernel
theorem dX4_as_63 : decode cX4_as 63 = .ok (.l2d, 1) := by decide +kernel
theorem dX4_as_64 : decode cX4_as 64 = .ok (.invokestatic 58, 3) := by decide +kernel
theorem dX4_as_67 : decode cX4_as 67 = .ok (.lreturn, 1) := by decide +kernel
set_option maxRecDepth 20000 in
theorem ggX4_go_X4_in : GoodIn wsX4_go wsX4_in := goodIn_r _ [10] (by decide +kernel) (by decide +kernel)
set_option maxRecDepth 20000 in
theorem gX4_go_X4_in : GoodIn wsX4_go (va_wsS RX4 36 yX4_in wsX4_in) := goodIn_app (goodIn_of _ (by decide +kernel)) ggX4_go_X4_in
theorem dX4_go_0 : decode cX4_go 0 = .ok (.aload_n 0, 1) := by decide +kernel
theorem dX4_go_1 : decode cX4_go 1 = .ok (.aload_n 0, 1) := by decide +kernel
theorem dX4_go_2 : decode cX4_go 2 = .ok (.getfield 26, 3) := by decide +kernel
theorem dX4_go_5 : decode cX4_go 5 = .ok (.iload_n 1, 1) := by decide +kernel
theorem dX4_go_6 : decode cX4_go 6 = .ok (.iaload, 1) := by decide +kernel
theorem dX4_go_7 : decode cX4_go 7 = .ok (.putfield 68, 3) := by decide +kernel
theorem dX4_go_10 : decode cX4_go 10 = .ok (.aload_n 0, 1) := by decide +kernel
theorem dX4_go_11 : decode cX4_go 11 = .ok (.iconst (-1), 1) := by decide +kernel
theorem dX4_go_12 : decode cX4_go 12 = .ok (.putfield 71, 3) := by decide +kernel
theorem dX4_go_15 : decode cX4_go 15 = .ok (.iconst 0, 1) := by decide +kernel
theorem dX4_go_16 : decode cX4_go 16 = .ok (.istore 6, 2) := by decide +kernel
theorem dX4_go_18 : decode cX4_go 18 = .ok (.iload 6, 2) := by decide +kernel
theorem dX4_go_20 : decode cX4_go 20 = .ok (.iload_n 2, 1) := by decide +kernel
theorem dX4_go_21 : decode cX4_go 21 = .ok (.if_icmp .ge 120, 3) := by decide +kernel
theorem dX4_go_24 : decode cX4_go 24 = .ok (.iload 6, 2) := by decide +kernel
theorem dX4_go_26 : decode cX4_go 26 = .ok (.ifCond .ne 7, 3) := by decide +kernel
theorem dX4_go_29 : decode cX4_go 29 = .ok (.iload_n 3, 1) := by decide +kernel
theorem dX4_go_30 : decode cX4_go 30 = .ok (.goto 16, 3) := by decide +kernel
theorem dX4_go_33 : decode cX4_go 33 = .ok (.iload 6, 2) := by decide +kernel
theorem dX4_go_35 : decode cX4_go 35 = .ok (.iconst 1, 1) := by decide +kernel
theorem dX4_go_36 : decode cX4_go 36 = .ok (.if_icmp .ne 8, 3) := by decide +kernel
theorem dX4_go_39 : decode cX4_go 39 = .ok (.iload 4, 2) := by decide +kernel
theorem dX4_go_41 : decode cX4_go 41 = .ok (.goto 5, 3) := by decide +kernel
theorem dX4_go_44 : decode cX4_go 44 = .ok (.iload 5, 2) := by decide +kernel
theorem dX4_go_46 : decode cX4_go 46 = .ok (.istore 7, 2) := by decide +kernel
theorem dX4_go_48 : decode cX4_go 48 = .ok (.aload_n 0, 1) := by decide +kernel
theorem dX4_go_49 : decode cX4_go 49 = .ok (.getfield 71, 3) := by decide +kernel
theorem dX4_go_52 : decode cX4_go 52 = .ok (.iconst (-1), 1) := by decide +kernel
theorem dX4_go_53 : decode cX4_go 53 = .ok (.if_icmp .eq 5, 3) := by decide +kernel
theorem dX4_go_56 : decode cX4_go 56 = .ok (.iconst 2, 1) := by decide +kernel
theorem dX4_go_57 : decode cX4_go 57 = .ok (.ireturn, 1) := by decide +kernel
theorem dX4_go_58 : decode cX4_go 58 = .ok (.aload_n 0, 1) := by decide +kernel
theorem dX4_go_59 : decode cX4_go 59 = .ok (.getfield 68, 3) := by decide +kernel
theorem dX4_go_62 : decode cX4_go 62 = .ok (.iconst (-1), 1) := by decide +kernel
theorem dX4_go_63 : decode cX4_go 63 = .ok (.if_icmp .ne 5, 3) := by decide +kernel
theorem dX4_go_66 : decode cX4_go 66 = .ok (.iconst 1, 1) := by decide +kernel
theorem dX4_go_67 : decode cX4_go 67 = .ok (.ireturn, 1) := by decide +kernel
theorem dX4_go_68 : decode cX4_go 68 = .ok (.iload 7, 2) := by decide +kernel
theorem dX4_go_70 : decode cX4_go 70 = .ok (.iconst 0, 1) := by decide +kernel
theorem dX4_go_71 : decode cX4_go 71 = .ok (.aload_n 0, 1) := by decide +kernel
theorem dX4_go_72 : decode cX4_go 72 = .ok (.getfield 16, 3) := by decide +kernel
theorem dX4_go_75 : decode cX4_go 75 = .ok (.aload_n 0, 1) := by decide +kernel
theorem dX4_go_76 : decode cX4_go 76 = .ok (.getfield 68, 3) := by decide +kernel
theorem dX4_go_79 : decode cX4_go 79 = .ok (.iaload, 1) := by decide +kernel
theorem dX4_go_80 : decode cX4_go 80 = .ok (.iconst 1, 1) := by decide +kernel
theorem dX4_go_81 : decode cX4_go 81 = .ok (.isub, 1) := by decide +kernel
theorem dX4_go_82 : decode cX4_go 82 = .ok (.invokestatic 36, 3) := by decide +kernel
theorem dX4_go_85 : decode cX4_go 85 = .ok (.ifCond .ne 5, 3) := by decide +kernel
theorem dX4_go_88 : decode cX4_go 88 = .ok (.iconst 3, 1) := by decide +kernel
theorem dX4_go_89 : decode cX4_go 89 = .ok (.ireturn, 1) := by decide +kernel
theorem dX4_go_90 : decode cX4_go 90 = .ok (.bipush 8, 2) := by decide +kernel
theorem dX4_go_92 : decode cX4_go 92 = .ok (.aload_n 0, 1) := by decide +kernel
theorem dX4_go_93 : decode cX4_go 93 = .ok (.getfield 68, 3) := by decide +kernel
theorem dX4_go_96 : decode cX4_go 96 = .ok (.imul, 1) := by decide +kernel
theorem dX4_go_97 : decode cX4_go 97 = .ok (.iload 7, 2) := by decide +kernel
theorem dX4_go_99 : decode cX4_go 99 = .ok (.iadd, 1) := by decide +kernel
theorem dX4_go_100 : decode cX4_go 100 = .ok (.istore 8, 2) := by decide +kernel
theorem dX4_go_102 : decode cX4_go 102 = .ok (.aload_n 0, 1) := by decide +kernel
theorem dX4_go_103 : decode cX4_go 103 = .ok (.getfield 13, 3) := by decide +kernel
theorem dX4_go_106 : decode cX4_go 106 = .ok (.aload_n 0, 1) := by decide +kernel
theorem dX4_go_107 : decode cX4_go 107 = .ok (.getfield 68, 3) := by decide +kernel
theorem dX4_go_110 : decode cX4_go 110 = .ok (.iaload, 1) := by decide +kernel
theorem dX4_go_111 : decode cX4_go 111 = .ok (.iconst 1, 1) := by decide +kernel
theorem dX4_go_112 : decode cX4_go 112 = .ok (.if_icmp .ne 12, 3) := by decide +kernel
theorem dX4_go_115 : decode cX4_go 115 = .ok (.aload_n 0, 1) := by decide +kernel
theorem dX4_go_116 : decode cX4_go 116 = .ok (.iload 8, 2) := by decide +kernel
theorem dX4_go_118 : decode cX4_go 118 = .ok (.putfield 71, 3) := by decide +kernel
theorem dX4_go_121 : decode cX4_go 121 = .ok (.goto 14, 3) := by decide +kernel
theorem dX4_go_124 : decode cX4_go 124 = .ok (.aload_n 0, 1) := by decide +kernel
theorem dX4_go_125 : decode cX4_go 125 = .ok (.aload_n 0, 1) := by decide +kernel
theorem dX4_go_126 : decode cX4_go 126 = .ok (.getfield 23, 3) := by decide +kernel
theorem dX4_go_129 : decode cX4_go 129 = .ok (.iload 8, 2) := by decide +kernel
theorem dX4_go_131 : decode cX4_go 131 = .ok (.iaload, 1) := by decide +kernel
theorem dX4_go_132 : decode cX4_go 132 = .ok (.putfield 68, 3) := by decide +kernel
theorem dX4_go_135 : decode cX4_go 135 = .ok (.iinc 6 1, 3) := by decide +kernel
theorem dX4_go_138 : decode cX4_go 138 = .ok (.goto (-120), 3) := by decide +kernel
theorem dX4_go_141 : decode cX4_go 141 = .ok (.iconst 0, 1) := by decide +kernel
theorem dX4_go_142 : decode cX4_go 142 = .ok (.ireturn, 1) := by decide +kernel
theorem dX4_wantRow_0 : decode cX4_wantRow 0 = .ok (.aload_n 0, 1) := by decide +kernel
theorem dX4_wantRow_1 : decode cX4_wantRow 1 = .ok (.getfield 71, 3) := by decide +kernel
theorem dX4_wantRow_4 : decode cX4_wantRow 4 = .ok (.iconst (-1), 1) := by decide +kernel
theorem dX4_wantRow_5 : decode cX4_wantRow 5 = .ok (.if_icmp .eq 7, 3) := by decide +kernel
theorem dX4_wantRow_8 : decode cX4_wantRow 8 = .ok (.iconst 2, 1) := by decide +kernel
theorem dX4_wantRow_9 : decode cX4_wantRow 9 = .ok (.goto 16, 3) := by decide +kernel
theorem dX4_wantRow_12 : decode cX4_wantRow 12 = .ok (.aload_n 0, 1) := by decide +kernel
theorem dX4_wantRow_13 : decode cX4_wantRow 13 = .ok (.getfield 68, 3) := by decide +kernel
theorem dX4_wantRow_16 : decode cX4_wantRow 16 = .ok (.iconst (-1), 1) := by decide +kernel
theorem dX4_wantRow_17 : decode cX4_wantRow 17 = .ok (.if_icmp .ne 7, 3) := by decide +kernel
theorem dX4_wantRow_20 : decode cX4_wantRow 20 = .ok (.iconst 1, 1) := by decide +kernel
theorem dX4_wantRow_21 : decode cX4_wantRow 21 = .ok (.goto 4, 3) := by decide +kernel
theorem dX4_wantRow_24 : decode cX4_wantRow 24 = .ok (.iconst 0, 1) := by decide +kernel
theorem dX4_wantRow_25 : decode cX4_wantRow 25 = .ok (.ireturn, 1) := by decide +kernel
set_option maxRecDepth 20000 in
theorem ggX4_goToRow_X4_go : GoodIn wsX4_goToRow wsX4_go := goodIn_r _ [5, 6, 7, 8, 9, 10, 11, 12, 13, 4, 14, 19, 20, 21, 22, 23, 24, 25, 26, 27, 28, 29, 30, 31, 32] (by decide +kernel) (by decide +kernel)
set_option maxRecDepth 20000 in
theorem gX4_goToRow_X4_go : GoodIn wsX4_goToRow (wsV RX4 74 RX4 yX4_go wsX4_go) := goodIn_app (goodIn_of _ (by decide +kernel)) ggX4_goToRow_X4_go
set_option maxRecDepth 20000 in
theorem ggX4_goToRow_X4_wantRow : GoodIn wsX4_goToRow wsX4_wantRow := goodIn_r _ [18, 8, 7, 19, 20, 21, 22, 23, 24, 25, 26, 27, 28, 29, 30, 31, 32] (by decide +kernel) (by decide +kernel)
set_option maxRecDepth 20000 in
theorem gX4_goToRow_X4_wantRow : GoodIn wsX4_goToRow (wsV RX4 78 RX4 yX4_wantRow wsX4_wantRow) := goodIn_app (goodIn_of _ (by decide +kernel)) ggX4_goToRow_X4_wantRow
theorem dX4_goToRow_0 : decode cX4_goToRow 0 = .ok (.aload_n 0, 1) := by decide +kernel
theorem dX4_goToRow_1 : decode cX4_goToRow 1 = .ok (.iload_n 1, 1) := by decide +kernel
theorem dX4_goToRow_2 : decode cX4_goToRow 2 = .ok (.iload_n 2, 1) := by decide +kernel
theorem dX4_goToRow_3 : decode cX4_goToRow 3 = .ok (.iload_n 3, 1) := by decide +kernel
theorem dX4_goToRow_4 : decode cX4_goToRow 4 = .ok (.iload 4, 2) := by decide +kernel
theorem dX4_goToRow_6 : decode cX4_goToRow 6 = .ok (.iconst 0, 1) := by decide +kernel
theorem dX4_goToRow_7 : decode cX4_goToRow 7 = .ok (.invokevirtual 74, 3) := by decide +kernel
theorem dX4_goToRow_10 : decode cX4_goToRow 10 = .ok (.istore 5, 2) := by decide +kernel
theorem dX4_goToRow_12 : decode cX4_goToRow 12 = .ok (.iload 5, 2) := by decide +kernel
theorem dX4_goToRow_14 : decode cX4_goToRow 14 = .ok (.ifCond .eq 8, 3) := by decide +kernel
theorem dX4_goToRow_17 : decode cX4_goToRow 17 = .ok (.iload 5, 2) := by decide +kernel
theorem dX4_goToRow_19 : decode cX4_goToRow 19 = .ok (.goto 7, 3) := by decide +kernel
theorem dX4_goToRow_22 : decode cX4_goToRow 22 = .ok (.aload_n 0, 1) := by decide +kernel
theorem dX4_goToRow_23 : decode cX4_goToRow 23 = .ok (.invokevirtual 78, 3) := by decide +kernel
theorem dX4_goToRow_26 : decode cX4_goToRow 26 = .ok (.ireturn, 1) := by decide +kernel
theorem dX4_last_0 : decode cX4_last 0 = .ok (.iload_n 0, 1) := by decide +kernel
theorem dX4_last_1 : decode cX4_last 1 = .ok (.iconst 1, 1) := by decide +kernel
theorem dX4_last_2 : decode cX4_last 2 = .ok (.if_icmp .ne 7, 3) := by decide +kernel
theorem dX4_last_5 : decode cX4_last 5 = .ok (.iload_n 1, 1) := by decide +kernel
theorem dX4_last_6 : decode cX4_last 6 = .ok (.goto 13, 3) := by decide +kernel
theorem dX4_last_9 : decode cX4_last 9 = .ok (.iload_n 0, 1) := by decide +kernel
theorem dX4_last_10 : decode cX4_last 10 = .ok (.iconst 2, 1) := by decide +kernel
theorem dX4_last_11 : decode cX4_last 11 = .ok (.if_icmp .ne 7, 3) := by decide +kernel
theorem dX4_last_14 : decode cX4_last 14 = .ok (.iload_n 2, 1) := by decide +kernel
theorem dX4_last_15 : decode cX4_last 15 = .ok (.goto 4, 3) := by decide +kernel
theorem dX4_last_18 : decode cX4_last 18 = .ok (.iload_n 3, 1) := by decide +kernel
theorem dX4_last_19 : decode cX4_last 19 = .ok (.ireturn, 1) := by decide +kernel
set_option maxRecDepth 20000 in
theorem ggX4_goToNumber_X4_goToRow : GoodIn wsX4_goToNumber wsX4_goToRow := goodIn_r _ [8, 9, 10, 11, 7, 12, 13, 2, 14, 3, 1, 15, 16, 17, 18, 19, 20, 21, 22, 26, 27, 28, 29, 30, 31, 32, 33, 34, 35, 36, 37, 38, 39] (by decide +kernel) (by decide +kernel)
set_option maxRecDepth 20000 in
theorem gX4_goToNumber_X4_goToRow : GoodIn wsX4_goToNumber (wsV RX4 82 RX4 yX4_goToRow wsX4_goToRow) := goodIn_app (goodIn_of _ (by decide +kernel)) ggX4_goToNumber_X4_goToRow
set_option maxRecDepth 20000 in
theorem ggX4_goToNumber_X4_last : GoodIn wsX4_goToNumber wsX4_last := goodIn_r _ [25] (by decide +kernel) (by decide +kernel)
set_option maxRecDepth 20000 in
theorem gX4_goToNumber_X4_last : GoodIn wsX4_goToNumber (va_wsS RX4 86 yX4_last wsX4_last) := goodIn_app (goodIn_of _ (by decide +kernel)) ggX4_goToNumber_X4_last
set_option maxRecDepth 20000 in
theorem ggX4_goToNumber_X4_in : GoodIn wsX4_goToNumber wsX4_in := goodIn_r _ [18] (by decide +kernel) (by decide +kernel)
set_option maxRecDepth 20000 in
theorem gX4_goToNumber_X4_in : GoodIn wsX4_goToNumber (va_wsS RX4 36 yX4_in wsX4_in) := goodIn_app (goodIn_of _ (by decide +kernel)) ggX4_goToNumber_X4_in
theorem dX4_goToNumber_0 : decode cX4_goToNumber 0 = .ok (.aload_n 0, 1) := by decide +kernel
theorem dX4_goToNumber_1 : decode cX4_goToNumber 1 = .ok (.iload_n 1, 1) := by decide +kernel
theorem dX4_goToNumber_2 : decode cX4_goToNumber 2 = .ok (.iload_n 2, 1) := by decide +kernel
theorem dX4_goToNumber_3 : decode cX4_goToNumber 3 = .ok (.iconst 1, 1) := by decide +kernel
theorem dX4_goToNumber_4 : decode cX4_goToNumber 4 = .ok (.isub, 1) := by decide +kernel
theorem dX4_goToNumber_5 : decode cX4_goToNumber 5 = .ok (.iload_n 3, 1) := by decide +kernel
theorem dX4_goToNumber_6 : decode cX4_goToNumber 6 = .ok (.iload 4, 2) := by decide +kernel
theorem dX4_goToNumber_8 : decode cX4_goToNumber 8 = .ok (.invokevirtual 82, 3) := by decide +kernel
theorem dX4_goToNumber_11 : decode cX4_goToNumber 11 = .ok (.istore 6, 2) := by decide +kernel
theorem dX4_goToNumber_13 : decode cX4_goToNumber 13 = .ok (.iload 6, 2) := by decide +kernel
theorem dX4_goToNumber_15 : decode cX4_goToNumber 15 = .ok (.ifCond .eq 6, 3) := by decide +kernel
theorem dX4_goToNumber_18 : decode cX4_goToNumber 18 = .ok (.iload 6, 2) := by decide +kernel
theorem dX4_goToNumber_20 : decode cX4_goToNumber 20 = .ok (.ireturn, 1) := by decide +kernel
theorem dX4_goToNumber_21 : decode cX4_goToNumber 21 = .ok (.aload_n 0, 1) := by decide +kernel
theorem dX4_goToNumber_22 : decode cX4_goToNumber 22 = .ok (.getfield 13, 3) := by decide +kernel
theorem dX4_goToNumber_25 : decode cX4_goToNumber 25 = .ok (.aload_n 0, 1) := by decide +kernel
theorem dX4_goToNumber_26 : decode cX4_goToNumber 26 = .ok (.getfield 68, 3) := by decide +kernel
theorem dX4_goToNumber_29 : decode cX4_goToNumber 29 = .ok (.iaload, 1) := by decide +kernel
theorem dX4_goToNumber_30 : decode cX4_goToNumber 30 = .ok (.iconst 1, 1) := by decide +kernel
theorem dX4_goToNumber_31 : decode cX4_goToNumber 31 = .ok (.if_icmp .le 7, 3) := by decide +kernel
theorem dX4_goToNumber_34 : decode cX4_goToNumber 34 = .ok (.iconst 2, 1) := by decide +kernel
theorem dX4_goToNumber_35 : decode cX4_goToNumber 35 = .ok (.goto 35, 3) := by decide +kernel
theorem dX4_goToNumber_38 : decode cX4_goToNumber 38 = .ok (.iload_n 2, 1) := by decide +kernel
theorem dX4_goToNumber_39 : decode cX4_goToNumber 39 = .ok (.iload_n 3, 1) := by decide +kernel
theorem dX4_goToNumber_40 : decode cX4_goToNumber 40 = .ok (.iload 4, 2) := by decide +kernel
theorem dX4_goToNumber_42 : decode cX4_goToNumber 42 = .ok (.iload 5, 2) := by decide +kernel
theorem dX4_goToNumber_44 : decode cX4_goToNumber 44 = .ok (.invokestatic 86, 3) := by decide +kernel
theorem dX4_goToNumber_47 : decode cX4_goToNumber 47 = .ok (.iconst 0, 1) := by decide +kernel
theorem dX4_goToNumber_48 : decode cX4_goToNumber 48 = .ok (.aload_n 0, 1) := by decide +kernel
theorem dX4_goToNumber_49 : decode cX4_goToNumber 49 = .ok (.getfield 16, 3) := by decide +kernel
theorem dX4_goToNumber_52 : decode cX4_goToNumber 52 = .ok (.aload_n 0, 1) := by decide +kernel
theorem dX4_goToNumber_53 : decode cX4_goToNumber 53 = .ok (.getfield 68, 3) := by decide +kernel
theorem dX4_goToNumber_56 : decode cX4_goToNumber 56 = .ok (.iaload, 1) := by decide +kernel
theorem dX4_goToNumber_57 : decode cX4_goToNumber 57 = .ok (.iconst 1, 1) := by decide +kernel
theorem dX4_goToNumber_58 : decode cX4_goToNumber 58 = .ok (.isub, 1) := by decide +kernel
theorem dX4_goToNumber_59 : decode cX4_goToNumber 59 = .ok (.invokestatic 36, 3) := by decide +kernel
theorem dX4_goToNumber_62 : decode cX4_goToNumber 62 = .ok (.ifCond .eq 7, 3) := by decide +kernel
theorem dX4_goToNumber_65 : decode cX4_goToNumber 65 = .ok (.iconst 0, 1) := by decide +kernel
theorem dX4_goToNumber_66 : decode cX4_goToNumber 66 = .ok (.goto 4, 3) := by decide +kernel
theorem dX4_goToNumber_69 : decode cX4_goToNumber 69 = .ok (.iconst 3, 1) := by decide +kernel
theorem dX4_goToNumber_70 : decode cX4_goToNumber 70 = .ok (.ireturn, 1) := by decide +kernel
set_option maxRecDepth 20000 in
theorem ggX4_make_X4_isBox : GoodIn wsX4_make wsX4_isBox := goodIn_r _ [10, 11, 12, 9, 13] (by decide +kernel) (by decide +kernel)
set_option maxRecDepth 20000 in
theorem gX4_make_X4_isBox : GoodIn wsX4_make (va_wsS RX4 89 yX4_isBox wsX4_isBox) := goodIn_app (goodIn_of _ (by decide +kernel)) ggX4_make_X4_isBox
set_option maxRecDepth 20000 in
theorem ggX4_make_X4_isKind : GoodIn wsX4_make wsX4_isKind := goodIn_r _ [16, 11, 12, 9, 13] (by decide +kernel) (by decide +kernel)
set_option maxRecDepth 20000 in
theorem gX4_make_X4_isKind : GoodIn wsX4_make (va_wsS RX4 93 yX4_isKind wsX4_isKind) := goodIn_app (goodIn_of _ (by decide +kernel)) ggX4_make_X4_isKind
set_option maxRecDepth 20000 in
theorem ggX4_make_X4_in : GoodIn wsX4_make wsX4_in := goodIn_r _ [13] (by decide +kernel) (by decide +kernel)
set_option maxRecDepth 20000 in
theorem gX4_make_X4_in : GoodIn wsX4_make (va_wsS RX4 36 yX4_in wsX4_in) := goodIn_app (goodIn_of _ (by decide +kernel)) ggX4_make_X4_in
set_option maxRecDepth 20000 in
theorem ggX4_make_X4_fails : GoodIn wsX4_make wsX4_fails := goodIn_r _ [20, 21, 22, 23, 24, 25, 26, 27, 28, 29, 30, 31, 32, 33, 34, 35] (by decide +kernel) (by decide +kernel)
set_option maxRecDepth 20000 in
theorem gX4_make_X4_fails : GoodIn wsX4_make (wsV RX4 96 RX4 yX4_fails wsX4_fails) := goodIn_app (goodIn_of _ (by decide +kernel)) ggX4_make_X4_fails
theorem dX4_make_0 : decode cX4_make 0 = .ok (.iload_n 1, 1) := by decide +kernel
theorem dX4_make_1 : decode cX4_make 1 = .ok (.invokestatic 89, 3) := by decide +kernel
theorem dX4_make_4 : decode cX4_make 4 = .ok (.ifCond .eq 19, 3) := by decide +kernel
theorem dX4_make_7 : decode cX4_make 7 = .ok (.iload_n 2, 1) := by decide +kernel
theorem dX4_make_8 : decode cX4_make 8 = .ok (.invokestatic 93, 3) := by decide +kernel
theorem dX4_make_11 : decode cX4_make 11 = .ok (.ifCond .eq 12, 3) := by decide +kernel
theorem dX4_make_14 : decode cX4_make 14 = .ok (.iload_n 3, 1) := by decide +kernel
theorem dX4_make_15 : decode cX4_make 15 = .ok (.iconst 1, 1) := by decide +kernel
theorem dX4_make_16 : decode cX4_make 16 = .ok (.iconst 3, 1) := by decide +kernel
theorem dX4_make_17 : decode cX4_make 17 = .ok (.invokestatic 36, 3) := by decide +kernel
theorem dX4_make_20 : decode cX4_make 20 = .ok (.ifCond .ne 5, 3) := by decide +kernel
theorem dX4_make_23 : decode cX4_make 23 = .ok (.iconst (-1), 1) := by decide +kernel
theorem dX4_make_24 : decode cX4_make 24 = .ok (.ireturn, 1) := by decide +kernel
theorem dX4_make_25 : decode cX4_make 25 = .ok (.aload_n 0, 1) := by decide +kernel
theorem dX4_make_26 : decode cX4_make 26 = .ok (.getfield 32, 3) := by decide +kernel
theorem dX4_make_29 : decode cX4_make 29 = .ok (.bipush 120, 2) := by decide +kernel
theorem dX4_make_31 : decode cX4_make 31 = .ok (.if_icmp .eq 10, 3) := by decide +kernel
theorem dX4_make_34 : decode cX4_make 34 = .ok (.iload 4, 2) := by decide +kernel
theorem dX4_make_36 : decode cX4_make 36 = .ok (.bipush 8, 2) := by decide +kernel
theorem dX4_make_38 : decode cX4_make 38 = .ok (.if_icmp .le 6, 3) := by decide +kernel
theorem dX4_make_41 : decode cX4_make 41 = .ok (.bipush (-2), 2) := by decide +kernel
theorem dX4_make_43 : decode cX4_make 43 = .ok (.ireturn, 1) := by decide +kernel
theorem dX4_make_44 : decode cX4_make 44 = .ok (.iload 4, 2) := by decide +kernel
theorem dX4_make_46 : decode cX4_make 46 = .ok (.ifCond .ge 9, 3) := by decide +kernel
theorem dX4_make_49 : decode cX4_make 49 = .ok (.aload_n 0, 1) := by decide +kernel
theorem dX4_make_50 : decode cX4_make 50 = .ok (.iconst 5, 1) := by decide +kernel
theorem dX4_make_51 : decode cX4_make 51 = .ok (.invokevirtual 96, 3) := by decide +kernel
theorem dX4_make_54 : decode cX4_make 54 = .ok (.ireturn, 1) := by decide +kernel
theorem dX4_make_55 : decode cX4_make 55 = .ok (.aload_n 0, 1) := by decide +kernel
theorem dX4_make_56 : decode cX4_make 56 = .ok (.getfield 7, 3) := by decide +kernel
theorem dX4_make_59 : decode cX4_make 59 = .ok (.aload_n 0, 1) := by decide +kernel
theorem dX4_make_60 : decode cX4_make 60 = .ok (.getfield 32, 3) := by decide +kernel
theorem dX4_make_63 : decode cX4_make 63 = .ok (.iload_n 2, 1) := by decide +kernel
theorem dX4_make_64 : decode cX4_make 64 = .ok (.iastore, 1) := by decide +kernel
theorem dX4_make_65 : decode cX4_make 65 = .ok (.aload_n 0, 1) := by decide +kernel
theorem dX4_make_66 : decode cX4_make 66 = .ok (.getfield 13, 3) := by decide +kernel
theorem dX4_make_69 : decode cX4_make 69 = .ok (.aload_n 0, 1) := by decide +kernel
theorem dX4_make_70 : decode cX4_make 70 = .ok (.getfield 32, 3) := by decide +kernel
theorem dX4_make_73 : decode cX4_make 73 = .ok (.iload_n 3, 1) := by decide +kernel
theorem dX4_make_74 : decode cX4_make 74 = .ok (.iastore, 1) := by decide +kernel
theorem dX4_make_75 : decode cX4_make 75 = .ok (.aload_n 0, 1) := by decide +kernel
theorem dX4_make_76 : decode cX4_make 76 = .ok (.getfield 16, 3) := by decide +kernel
theorem dX4_make_79 : decode cX4_make 79 = .ok (.aload_n 0, 1) := by decide +kernel
theorem dX4_make_80 : decode cX4_make 80 = .ok (.getfield 32, 3) := by decide +kernel
theorem dX4_make_83 : decode cX4_make 83 = .ok (.iload 4, 2) := by decide +kernel
theorem dX4_make_85 : decode cX4_make 85 = .ok (.iastore, 1) := by decide +kernel
theorem dX4_make_86 : decode cX4_make 86 = .ok (.iconst 0, 1) := by decide +kernel
theorem dX4_make_87 : decode cX4_make 87 = .ok (.istore 5, 2) := by decide +kernel
theorem dX4_make_89 : decode cX4_make 89 = .ok (.iload 5, 2) := by decide +kernel
theorem dX4_make_91 : decode cX4_make 91 = .ok (.bipush 8, 2) := by decide +kernel
theorem dX4_make_93 : decode cX4_make 93 = .ok (.if_icmp .ge 25, 3) := by decide +kernel
theorem dX4_make_96 : decode cX4_make 96 = .ok (.aload_n 0, 1) := by decide +kernel
theorem dX4_make_97 : decode cX4_make 97 = .ok (.getfield 23, 3) := by decide +kernel
theorem dX4_make_100 : decode cX4_make 100 = .ok (.bipush 8, 2) := by decide +kernel
theorem dX4_make_102 : decode cX4_make 102 = .ok (.aload_n 0, 1) := by decide +kernel
theorem dX4_make_103 : decode cX4_make 103 = .ok (.getfield 32, 3) := by decide +kernel
theorem dX4_make_106 : decode cX4_make 106 = .ok (.imul, 1) := by decide +kernel
theorem dX4_make_107 : decode cX4_make 107 = .ok (.iload 5, 2) := by decide +kernel
theorem dX4_make_109 : decode cX4_make 109 = .ok (.iadd, 1) := by decide +kernel
theorem dX4_make_110 : decode cX4_make 110 = .ok (.iconst (-1), 1) := by decide +kernel
theorem dX4_make_111 : decode cX4_make 111 = .ok (.iastore, 1) := by decide +kernel
theorem dX4_make_112 : decode cX4_make 112 = .ok (.iinc 5 1, 3) := by decide +kernel
theorem dX4_make_115 : decode cX4_make 115 = .ok (.goto (-26), 3) := by decide +kernel
theorem dX4_make_118 : decode cX4_make 118 = .ok (.aload_n 0, 1) := by decide +kernel
theorem dX4_make_119 : decode cX4_make 119 = .ok (.getfield 26, 3) := by decide +kernel
theorem dX4_make_122 : decode cX4_make 122 = .ok (.iload_n 1, 1) := by decide +kernel
theorem dX4_make_123 : decode cX4_make 123 = .ok (.aload_n 0, 1) := by decide +kernel
theorem dX4_make_124 : decode cX4_make 124 = .ok (.getfield 32, 3) := by decide +kernel
theorem dX4_make_127 : decode cX4_make 127 = .ok (.iastore, 1) := by decide +kernel
theorem dX4_make_128 : decode cX4_make 128 = .ok (.aload_n 0, 1) := by decide +kernel
theorem dX4_make_129 : decode cX4_make 129 = .ok (.dup, 1) := by decide +kernel
theorem dX4_make_130 : decode cX4_make 130 = .ok (.getfield 32, 3) := by decide +kernel
theorem dX4_make_133 : decode cX4_make 133 = .ok (.iconst 1, 1) := by decide +kernel
theorem dX4_make_134 : decode cX4_make 134 = .ok (.iadd, 1) := by decide +kernel
theorem dX4_make_135 : decode cX4_make 135 = .ok (.putfield 32, 3) := by decide +kernel
theorem dX4_make_138 : decode cX4_make 138 = .ok (.aload_n 0, 1) := by decide +kernel
theorem dX4_make_139 : decode cX4_make 139 = .ok (.getfield 32, 3) := by decide +kernel
theorem dX4_make_142 : decode cX4_make 142 = .ok (.iconst 1, 1) := by decide +kernel
theorem dX4_make_143 : decode cX4_make 143 = .ok (.isub, 1) := by decide +kernel
theorem dX4_make_144 : decode cX4_make 144 = .ok (.ireturn, 1) := by decide +kernel
set_option maxRecDepth 20000 in
theorem ggX4_take_X4_isBox : GoodIn wsX4_take wsX4_isBox := goodIn_r _ [5, 6, 7, 4, 8] (by decide +kernel) (by decide +kernel)
set_option maxRecDepth 20000 in
theorem gX4_take_X4_isBox : GoodIn wsX4_take (va_wsS RX4 89 yX4_isBox wsX4_isBox) := goodIn_app (goodIn_of _ (by decide +kernel)) ggX4_take_X4_isBox
theorem dX4_take_0 : decode cX4_take 0 = .ok (.iload_n 1, 1) := by decide +kernel
theorem dX4_take_1 : decode cX4_take 1 = .ok (.invokestatic 89, 3) := by decide +kernel
theorem dX4_take_4 : decode cX4_take 4 = .ok (.ifCond .eq 10, 3) := by decide +kernel
theorem dX4_take_7 : decode cX4_take 7 = .ok (.iload_n 2, 1) := by decide +kernel
theorem dX4_take_8 : decode cX4_take 8 = .ok (.invokestatic 89, 3) := by decide +kernel
theorem dX4_take_11 : decode cX4_take 11 = .ok (.ifCond .ne 5, 3) := by decide +kernel
theorem dX4_take_14 : decode cX4_take 14 = .ok (.iconst (-1), 1) := by decide +kernel
theorem dX4_take_15 : decode cX4_take 15 = .ok (.ireturn, 1) := by decide +kernel
theorem dX4_take_16 : decode cX4_take 16 = .ok (.aload_n 0, 1) := by decide +kernel
theorem dX4_take_17 : decode cX4_take 17 = .ok (.getfield 26, 3) := by decide +kernel
theorem dX4_take_20 : decode cX4_take 20 = .ok (.iload_n 1, 1) := by decide +kernel
theorem dX4_take_21 : decode cX4_take 21 = .ok (.aload_n 0, 1) := by decide +kernel
theorem dX4_take_22 : decode cX4_take 22 = .ok (.getfield 26, 3) := by decide +kernel
theorem dX4_take_25 : decode cX4_take 25 = .ok (.iload_n 2, 1) := by decide +kernel
theorem dX4_take_26 : decode cX4_take 26 = .ok (.iaload, 1) := by decide +kernel
theorem dX4_take_27 : decode cX4_take 27 = .ok (.iastore, 1) := by decide +kernel
theorem dX4_take_28 : decode cX4_take 28 = .ok (.aload_n 0, 1) := by decide +kernel
theorem dX4_take_29 : decode cX4_take 29 = .ok (.getfield 26, 3) := by decide +kernel
theorem dX4_take_32 : decode cX4_take 32 = .ok (.iload_n 1, 1) := by decide +kernel
theorem dX4_take_33 : decode cX4_take 33 = .ok (.iaload, 1) := by decide +kernel
theorem dX4_take_34 : decode cX4_take 34 = .ok (.iconst (-1), 1) := by decide +kernel
theorem dX4_take_35 : decode cX4_take 35 = .ok (.if_icmp .ne 7, 3) := by decide +kernel
theorem dX4_take_38 : decode cX4_take 38 = .ok (.iconst 0, 1) := by decide +kernel
theorem dX4_take_39 : decode cX4_take 39 = .ok (.goto 4, 3) := by decide +kernel
theorem dX4_take_42 : decode cX4_take 42 = .ok (.iconst 1, 1) := by decide +kernel
theorem dX4_take_43 : decode cX4_take 43 = .ok (.ireturn, 1) := by decide +kernel
set_option maxRecDepth 20000 in
theorem ggX4_empty_X4_isBox : GoodIn wsX4_empty wsX4_isBox := goodIn_r _ [5, 6, 7, 4, 8] (by decide +kernel) (by decide +kernel)
set_option maxRecDepth 20000 in
theorem gX4_empty_X4_isBox : GoodIn wsX4_empty (va_wsS RX4 89 yX4_isBox wsX4_isBox) := goodIn_app (goodIn_of _ (by decide +kernel)) ggX4_empty_X4_isBox
theorem dX4_empty_0 : decode cX4_empty 0 = .ok (.iload_n 1, 1) := by decide +kernel
theorem dX4_empty_1 : decode cX4_empty 1 = .ok (.invokestatic 89, 3) := by decide +kernel
theorem dX4_empty_4 : decode cX4_empty 4 = .ok (.ifCond .ne 5, 3) := by decide +kernel
theorem dX4_empty_7 : decode cX4_empty 7 = .ok (.iconst (-1), 1) := by decide +kernel
theorem dX4_empty_8 : decode cX4_empty 8 = .ok (.ireturn, 1) := by decide +kernel
theorem dX4_empty_9 : decode cX4_empty 9 = .ok (.aload_n 0, 1) := by decide +kernel
theorem dX4_empty_10 : decode cX4_empty 10 = .ok (.getfield 26, 3) := by decide +kernel
theorem dX4_empty_13 : decode cX4_empty 13 = .ok (.iload_n 1, 1) := by decide +kernel
theorem dX4_empty_14 : decode cX4_empty 14 = .ok (.iaload, 1) := by decide +kernel
theorem dX4_empty_15 : decode cX4_empty 15 = .ok (.iconst (-1), 1) := by decide +kernel
theorem dX4_empty_16 : decode cX4_empty 16 = .ok (.if_icmp .ne 7, 3) := by decide +kernel
theorem dX4_empty_19 : decode cX4_empty 19 = .ok (.iconst 0, 1) := by decide +kernel
theorem dX4_empty_20 : decode cX4_empty 20 = .ok (.goto 4, 3) := by decide +kernel
theorem dX4_empty_23 : decode cX4_empty 23 = .ok (.iconst 1, 1) := by decide +kernel
theorem dX4_empty_24 : decode cX4_empty 24 = .ok (.istore_n 2, 1) := by decide +kernel
theorem dX4_empty_25 : decode cX4_empty 25 = .ok (.aload_n 0, 1) := by decide +kernel
theorem dX4_empty_26 : decode cX4_empty 26 = .ok (.getfield 26, 3) := by decide +kernel
theorem dX4_empty_29 : decode cX4_empty 29 = .ok (.iload_n 1, 1) := by decide +kernel
theorem dX4_empty_30 : decode cX4_empty 30 = .ok (.iconst (-1), 1) := by decide +kernel
theorem dX4_empty_31 : decode cX4_empty 31 = .ok (.iastore, 1) := by decide +kernel
theorem dX4_empty_32 : decode cX4_empty 32 = .ok (.iload_n 2, 1) := by decide +kernel
theorem dX4_empty_33 : decode cX4_empty 33 = .ok (.ireturn, 1) := by decide +kernel
set_option maxRecDepth 20000 in
theorem ggX4_same_X4_isBox : GoodIn wsX4_same wsX4_isBox := goodIn_r _ [5, 6, 7, 4, 8] (by decide +kernel) (by decide +kernel)
set_option maxRecDepth 20000 in
theorem gX4_same_X4_isBox : GoodIn wsX4_same (va_wsS RX4 89 yX4_isBox wsX4_isBox) := goodIn_app (goodIn_of _ (by decide +kernel)) ggX4_same_X4_isBox
theorem dX4_same_0 : decode cX4_same 0 = .ok (.iload_n 1, 1) := by decide +kernel
theorem dX4_same_1 : decode cX4_same 1 = .ok (.invokestatic 89, 3) := by decide +kernel
theorem dX4_same_4 : decode cX4_same 4 = .ok (.ifCond .eq 10, 3) := by decide +kernel
theorem dX4_same_7 : decode cX4_same 7 = .ok (.iload_n 2, 1) := by decide +kernel
theorem dX4_same_8 : decode cX4_same 8 = .ok (.invokestatic 89, 3) := by decide +kernel
theorem dX4_same_11 : decode cX4_same 11 = .ok (.ifCond .ne 7, 3) := by decide +kernel
theorem dX4_same_14 : decode cX4_same 14 = .ok (.iconst (-1), 1) := by decide +kernel
theorem dX4_same_15 : decode cX4_same 15 = .ok (.goto 23, 3) := by decide +kernel
theorem dX4_same_18 : decode cX4_same 18 = .ok (.aload_n 0, 1) := by decide +kernel
theorem dX4_same_19 : decode cX4_same 19 = .ok (.getfield 26, 3) := by decide +kernel
theorem dX4_same_22 : decode cX4_same 22 = .ok (.iload_n 1, 1) := by decide +kernel
theorem dX4_same_23 : decode cX4_same 23 = .ok (.iaload, 1) := by decide +kernel
theorem dX4_same_24 : decode cX4_same 24 = .ok (.aload_n 0, 1) := by decide +kernel
theorem dX4_same_25 : decode cX4_same 25 = .ok (.getfield 26, 3) := by decide +kernel
theorem dX4_same_28 : decode cX4_same 28 = .ok (.iload_n 2, 1) := by decide +kernel
theorem dX4_same_29 : decode cX4_same 29 = .ok (.iaload, 1) := by decide +kernel
theorem dX4_same_30 : decode cX4_same 30 = .ok (.if_icmp .ne 7, 3) := by decide +kernel
theorem dX4_same_33 : decode cX4_same 33 = .ok (.iconst 1, 1) := by decide +kernel
theorem dX4_same_34 : decode cX4_same 34 = .ok (.goto 4, 3) := by decide +kernel
theorem dX4_same_37 : decode cX4_same 37 = .ok (.iconst 0, 1) := by decide +kernel
theorem dX4_same_38 : decode cX4_same 38 = .ok (.ireturn, 1) := by decide +kernel
set_option maxRecDepth 20000 in
theorem ggX4_look_X4_isBox : GoodIn wsX4_look wsX4_isBox := goodIn_r _ [10, 11, 12, 9, 13] (by decide +kernel) (by decide +kernel)
set_option maxRecDepth 20000 in
theorem gX4_look_X4_isBox : GoodIn wsX4_look (va_wsS RX4 89 yX4_isBox wsX4_isBox) := goodIn_app (goodIn_of _ (by decide +kernel)) ggX4_look_X4_isBox
set_option maxRecDepth 20000 in
theorem ggX4_look_X4_in : GoodIn wsX4_look wsX4_in := goodIn_r _ [13] (by decide +kernel) (by decide +kernel)
set_option maxRecDepth 20000 in
theorem gX4_look_X4_in : GoodIn wsX4_look (va_wsS RX4 36 yX4_in wsX4_in) := goodIn_app (goodIn_of _ (by decide +kernel)) ggX4_look_X4_in
set_option maxRecDepth 20000 in
theorem ggX4_look_X4_go : GoodIn wsX4_look wsX4_go := goodIn_r _ [17, 18, 5, 1, 19, 6, 20, 11, 12, 9, 13, 26, 27, 28, 29, 30, 31, 32, 33, 34, 35, 36, 37, 38, 39] (by decide +kernel) (by decide +kernel)
set_option maxRecDepth 20000 in
theorem gX4_look_X4_go : GoodIn wsX4_look (wsV RX4 74 RX4 yX4_go wsX4_go) := goodIn_app (goodIn_of _ (by decide +kernel)) ggX4_look_X4_go
set_option maxRecDepth 20000 in
theorem ggX4_look_X4_fails : GoodIn wsX4_look wsX4_fails := goodIn_r _ [24, 25, 26, 27, 28, 29, 30, 31, 32, 33, 34, 35, 36, 37, 38, 39] (by decide +kernel) (by decide +kernel)
set_option maxRecDepth 20000 in
theorem gX4_look_X4_fails : GoodIn wsX4_look (wsV RX4 96 RX4 yX4_fails wsX4_fails) := goodIn_app (goodIn_of _ (by decide +kernel)) ggX4_look_X4_fails
theorem dX4_look_0 : decode cX4_look 0 = .ok (.iload_n 1, 1) := by decide +kernel
theorem dX4_look_1 : decode cX4_look 1 = .ok (.invokestatic 89, 3) := by decide +kernel
theorem dX4_look_4 : decode cX4_look 4 = .ok (.ifCond .eq 12, 3) := by decide +kernel
theorem dX4_look_7 : decode cX4_look 7 = .ok (.iload_n 2, 1) := by decide +kernel
theorem dX4_look_8 : decode cX4_look 8 = .ok (.iconst 0, 1) := by decide +kernel
theorem dX4_look_9 : decode cX4_look 9 = .ok (.iconst 3, 1) := by decide +kernel
theorem dX4_look_10 : decode cX4_look 10 = .ok (.invokestatic 36, 3) := by decide +kernel
theorem dX4_look_13 : decode cX4_look 13 = .ok (.ifCond .ne 5, 3) := by decide +kernel
theorem dX4_look_16 : decode cX4_look 16 = .ok (.iconst (-1), 1) := by decide +kernel
theorem dX4_look_17 : decode cX4_look 17 = .ok (.ireturn, 1) := by decide +kernel
theorem dX4_look_18 : decode cX4_look 18 = .ok (.aload_n 0, 1) := by decide +kernel
theorem dX4_look_19 : decode cX4_look 19 = .ok (.iload_n 1, 1) := by decide +kernel
theorem dX4_look_20 : decode cX4_look 20 = .ok (.iload_n 2, 1) := by decide +kernel
theorem dX4_look_21 : decode cX4_look 21 = .ok (.iload_n 3, 1) := by decide +kernel
theorem dX4_look_22 : decode cX4_look 22 = .ok (.iload 4, 2) := by decide +kernel
theorem dX4_look_24 : decode cX4_look 24 = .ok (.iload 5, 2) := by decide +kernel
theorem dX4_look_26 : decode cX4_look 26 = .ok (.invokevirtual 74, 3) := by decide +kernel
theorem dX4_look_29 : decode cX4_look 29 = .ok (.istore 6, 2) := by decide +kernel
theorem dX4_look_31 : decode cX4_look 31 = .ok (.iload 6, 2) := by decide +kernel
theorem dX4_look_33 : decode cX4_look 33 = .ok (.ifCond .eq 10, 3) := by decide +kernel
theorem dX4_look_36 : decode cX4_look 36 = .ok (.aload_n 0, 1) := by decide +kernel
theorem dX4_look_37 : decode cX4_look 37 = .ok (.iload 6, 2) := by decide +kernel
theorem dX4_look_39 : decode cX4_look 39 = .ok (.invokevirtual 96, 3) := by decide +kernel
theorem dX4_look_42 : decode cX4_look 42 = .ok (.ireturn, 1) := by decide +kernel
theorem dX4_look_43 : decode cX4_look 43 = .ok (.aload_n 0, 1) := by decide +kernel
theorem dX4_look_44 : decode cX4_look 44 = .ok (.getfield 71, 3) := by decide +kernel
theorem dX4_look_47 : decode cX4_look 47 = .ok (.iconst (-1), 1) := by decide +kernel
theorem dX4_look_48 : decode cX4_look 48 = .ok (.if_icmp .eq 26, 3) := by decide +kernel
theorem dX4_look_51 : decode cX4_look 51 = .ok (.aload_n 0, 1) := by decide +kernel
theorem dX4_look_52 : decode cX4_look 52 = .ok (.aload_n 0, 1) := by decide +kernel
theorem dX4_look_53 : decode cX4_look 53 = .ok (.getfield 19, 3) := by decide +kernel
theorem dX4_look_56 : decode cX4_look 56 = .ok (.aload_n 0, 1) := by decide +kernel
theorem dX4_look_57 : decode cX4_look 57 = .ok (.getfield 71, 3) := by decide +kernel
theorem dX4_look_60 : decode cX4_look 60 = .ok (.laload, 1) := by decide +kernel
theorem dX4_look_61 : decode cX4_look 61 = .ok (.putfield 100, 3) := by decide +kernel
theorem dX4_look_64 : decode cX4_look 64 = .ok (.aload_n 0, 1) := by decide +kernel
theorem dX4_look_65 : decode cX4_look 65 = .ok (.getfield 7, 3) := by decide +kernel
theorem dX4_look_68 : decode cX4_look 68 = .ok (.aload_n 0, 1) := by decide +kernel
theorem dX4_look_69 : decode cX4_look 69 = .ok (.getfield 68, 3) := by decide +kernel
theorem dX4_look_72 : decode cX4_look 72 = .ok (.iaload, 1) := by decide +kernel
theorem dX4_look_73 : decode cX4_look 73 = .ok (.ireturn, 1) := by decide +kernel
theorem dX4_look_74 : decode cX4_look 74 = .ok (.aload_n 0, 1) := by decide +kernel
theorem dX4_look_75 : decode cX4_look 75 = .ok (.getfield 68, 3) := by decide +kernel
theorem dX4_look_78 : decode cX4_look 78 = .ok (.iconst (-1), 1) := by decide +kernel
theorem dX4_look_79 : decode cX4_look 79 = .ok (.if_icmp .ne 8, 3) := by decide +kernel
theorem dX4_look_82 : decode cX4_look 82 = .ok (.bipush 40, 2) := by decide +kernel
theorem dX4_look_84 : decode cX4_look 84 = .ok (.goto 25, 3) := by decide +kernel
theorem dX4_look_87 : decode cX4_look 87 = .ok (.aload_n 0, 1) := by decide +kernel
theorem dX4_look_88 : decode cX4_look 88 = .ok (.getfield 7, 3) := by decide +kernel
theorem dX4_look_91 : decode cX4_look 91 = .ok (.aload_n 0, 1) := by decide +kernel
theorem dX4_look_92 : decode cX4_look 92 = .ok (.getfield 68, 3) := by decide +kernel
theorem dX4_look_95 : decode cX4_look 95 = .ok (.iaload, 1) := by decide +kernel
theorem dX4_look_96 : decode cX4_look 96 = .ok (.bipush 10, 2) := by decide +kernel
theorem dX4_look_98 : decode cX4_look 98 = .ok (.aload_n 0, 1) := by decide +kernel
theorem dX4_look_99 : decode cX4_look 99 = .ok (.getfield 13, 3) := by decide +kernel
theorem dX4_look_102 : decode cX4_look 102 = .ok (.aload_n 0, 1) := by decide +kernel
theorem dX4_look_103 : decode cX4_look 103 = .ok (.getfield 68, 3) := by decide +kernel
theorem dX4_look_106 : decode cX4_look 106 = .ok (.iaload, 1) := by decide +kernel
theorem dX4_look_107 : decode cX4_look 107 = .ok (.imul, 1) := by decide +kernel
theorem dX4_look_108 : decode cX4_look 108 = .ok (.iadd, 1) := by decide +kernel
theorem dX4_look_109 : decode cX4_look 109 = .ok (.ireturn, 1) := by decide +kernel
set_option maxRecDepth 20000 in
theorem ggX4_length_X4_isBox : GoodIn wsX4_length wsX4_isBox := goodIn_r _ [6, 7, 8, 5, 9] (by decide +kernel) (by decide +kernel)
set_option maxRecDepth 20000 in
theorem gX4_length_X4_isBox : GoodIn wsX4_length (va_wsS RX4 89 yX4_isBox wsX4_isBox) := goodIn_app (goodIn_of _ (by decide +kernel)) ggX4_length_X4_isBox
set_option maxRecDepth 20000 in
theorem ggX4_length_X4_in : GoodIn wsX4_length wsX4_in := goodIn_r _ [9] (by decide +kernel) (by decide +kernel)
set_option maxRecDepth 20000 in
theorem gX4_length_X4_in : GoodIn wsX4_length (va_wsS RX4 36 yX4_in wsX4_in) := goodIn_app (goodIn_of _ (by decide +kernel)) ggX4_length_X4_in
set_option maxRecDepth 20000 in
theorem ggX4_length_X4_go : GoodIn wsX4_length wsX4_go := goodIn_r _ [13, 14, 2, 15, 1, 16, 17, 7, 8, 5, 9, 27, 28, 29, 30, 31, 32, 33, 34, 35, 36, 37, 38, 39, 40] (by decide +kernel) (by decide +kernel)
set_option maxRecDepth 20000 in
theorem gX4_length_X4_go : GoodIn wsX4_length (wsV RX4 74 RX4 yX4_go wsX4_go) := goodIn_app (goodIn_of _ (by decide +kernel)) ggX4_length_X4_go
set_option maxRecDepth 20000 in
theorem ggX4_length_X4_wantRow : GoodIn wsX4_length wsX4_wantRow := goodIn_r _ [21, 15, 2, 27, 28, 29, 30, 31, 32, 33, 34, 35, 36, 37, 38, 39, 40] (by decide +kernel) (by decide +kernel)
set_option maxRecDepth 20000 in
theorem gX4_length_X4_wantRow : GoodIn wsX4_length (wsV RX4 78 RX4 yX4_wantRow wsX4_wantRow) := goodIn_app (goodIn_of _ (by decide +kernel)) ggX4_length_X4_wantRow
set_option maxRecDepth 20000 in
theorem ggX4_length_X4_fails : GoodIn wsX4_length wsX4_fails := goodIn_r _ [25, 26, 27, 28, 29, 30, 31, 32, 33, 34, 35, 36, 37, 38, 39, 40] (by decide +kernel) (by decide +kernel)
set_option maxRecDepth 20000 in
theorem gX4_length_X4_fails : GoodIn wsX4_length (wsV RX4 96 RX4 yX4_fails wsX4_fails) := goodIn_app (goodIn_of _ (by decide +kernel)) ggX4_length_X4_fails
theorem dX4_length_0 : decode cX4_length 0 = .ok (.iload_n 1, 1) := by decide +kernel
theorem dX4_length_1 : decode cX4_length 1 = .ok (.invokestatic 89, 3) := by decide +kernel
theorem dX4_length_4 : decode cX4_length 4 = .ok (.ifCond .eq 12, 3) := by decide +kernel
theorem dX4_length_7 : decode cX4_length 7 = .ok (.iload_n 2, 1) := by decide +kernel
theorem dX4_length_8 : decode cX4_length 8 = .ok (.iconst 0, 1) := by decide +kernel
theorem dX4_length_9 : decode cX4_length 9 = .ok (.iconst 3, 1) := by decide +kernel
theorem dX4_length_10 : decode cX4_length 10 = .ok (.invokestatic 36, 3) := by decide +kernel
theorem dX4_length_13 : decode cX4_length 13 = .ok (.ifCond .ne 5, 3) := by decide +kernel
theorem dX4_length_16 : decode cX4_length 16 = .ok (.iconst (-1), 1) := by decide +kernel
theorem dX4_length_17 : decode cX4_length 17 = .ok (.ireturn, 1) := by decide +kernel
theorem dX4_length_18 : decode cX4_length 18 = .ok (.aload_n 0, 1) := by decide +kernel
theorem dX4_length_19 : decode cX4_length 19 = .ok (.iload_n 1, 1) := by decide +kernel
theorem dX4_length_20 : decode cX4_length 20 = .ok (.iload_n 2, 1) := by decide +kernel
theorem dX4_length_21 : decode cX4_length 21 = .ok (.iload_n 3, 1) := by decide +kernel
theorem dX4_length_22 : decode cX4_length 22 = .ok (.iload 4, 2) := by decide +kernel
theorem dX4_length_24 : decode cX4_length 24 = .ok (.iload 5, 2) := by decide +kernel
theorem dX4_length_26 : decode cX4_length 26 = .ok (.invokevirtual 74, 3) := by decide +kernel
theorem dX4_length_29 : decode cX4_length 29 = .ok (.istore 6, 2) := by decide +kernel
theorem dX4_length_31 : decode cX4_length 31 = .ok (.iload 6, 2) := by decide +kernel
theorem dX4_length_33 : decode cX4_length 33 = .ok (.ifCond .eq 8, 3) := by decide +kernel
theorem dX4_length_36 : decode cX4_length 36 = .ok (.iload 6, 2) := by decide +kernel
theorem dX4_length_38 : decode cX4_length 38 = .ok (.goto 7, 3) := by decide +kernel
theorem dX4_length_41 : decode cX4_length 41 = .ok (.aload_n 0, 1) := by decide +kernel
theorem dX4_length_42 : decode cX4_length 42 = .ok (.invokevirtual 78, 3) := by decide +kernel
theorem dX4_length_45 : decode cX4_length 45 = .ok (.istore 6, 2) := by decide +kernel
theorem dX4_length_47 : decode cX4_length 47 = .ok (.iload 6, 2) := by decide +kernel
theorem dX4_length_49 : decode cX4_length 49 = .ok (.ifCond .eq 12, 3) := by decide +kernel
theorem dX4_length_52 : decode cX4_length 52 = .ok (.aload_n 0, 1) := by decide +kernel
theorem dX4_length_53 : decode cX4_length 53 = .ok (.iload 6, 2) := by decide +kernel
theorem dX4_length_55 : decode cX4_length 55 = .ok (.invokevirtual 96, 3) := by decide +kernel
theorem dX4_length_58 : decode cX4_length 58 = .ok (.goto 12, 3) := by decide +kernel
theorem dX4_length_61 : decode cX4_length 61 = .ok (.aload_n 0, 1) := by decide +kernel
theorem dX4_length_62 : decode cX4_length 62 = .ok (.getfield 16, 3) := by decide +kernel
theorem dX4_length_65 : decode cX4_length 65 = .ok (.aload_n 0, 1) := by decide +kernel
theorem dX4_length_66 : decode cX4_length 66 = .ok (.getfield 68, 3) := by decide +kernel
theorem dX4_length_69 : decode cX4_length 69 = .ok (.iaload, 1) := by decide +kernel
theorem dX4_length_70 : decode cX4_length 70 = .ok (.ireturn, 1) := by decide +kernel
set_option maxRecDepth 20000 in
theorem ggX4_read_X4_isBox : GoodIn wsX4_read wsX4_isBox := goodIn_r _ [8, 9, 10, 7, 11] (by decide +kernel) (by decide +kernel)
set_option maxRecDepth 20000 in
theorem gX4_read_X4_isBox : GoodIn wsX4_read (va_wsS RX4 89 yX4_isBox wsX4_isBox) := goodIn_app (goodIn_of _ (by decide +kernel)) ggX4_read_X4_isBox
set_option maxRecDepth 20000 in
theorem ggX4_read_X4_in : GoodIn wsX4_read wsX4_in := goodIn_r _ [11] (by decide +kernel) (by decide +kernel)
set_option maxRecDepth 20000 in
theorem gX4_read_X4_in : GoodIn wsX4_read (va_wsS RX4 36 yX4_in wsX4_in) := goodIn_app (goodIn_of _ (by decide +kernel)) ggX4_read_X4_in
set_option maxRecDepth 20000 in
theorem ggX4_read_X4_isKind : GoodIn wsX4_read wsX4_isKind := goodIn_r _ [14, 9, 10, 7, 11] (by decide +kernel) (by decide +kernel)
set_option maxRecDepth 20000 in
theorem gX4_read_X4_isKind : GoodIn wsX4_read (va_wsS RX4 93 yX4_isKind wsX4_isKind) := goodIn_app (goodIn_of _ (by decide +kernel)) ggX4_read_X4_isKind
set_option maxRecDepth 20000 in
theorem ggX4_read_X4_goToNumber : GoodIn wsX4_read wsX4_goToNumber := goodIn_r _ [18, 19, 2, 20, 21, 22, 23, 7, 24, 25, 26, 27, 28, 29, 30, 31, 9, 10, 11, 32, 33, 34, 35, 36, 37, 38, 79, 80, 81, 82, 83, 84, 85, 86, 87, 88, 89, 90, 91, 92] (by decide +kernel) (by decide +kernel)
set_option maxRecDepth 20000 in
theorem gX4_read_X4_goToNumber : GoodIn wsX4_read (wsV RX4 104 RX4 yX4_goToNumber wsX4_goToNumber) := goodIn_app (goodIn_of _ (by decide +kernel)) ggX4_read_X4_goToNumber
set_option maxRecDepth 20000 in
theorem ggX4_read_X4_goesInto : GoodIn wsX4_read wsX4_goesInto := goodIn_r _ [41] (by decide +kernel) (by decide +kernel)
set_option maxRecDepth 20000 in
theorem gX4_read_X4_goesInto : GoodIn wsX4_read (va_wsS RX4 107 yX4_goesInto wsX4_goesInto) := goodIn_app (goodIn_of _ (by decide +kernel)) ggX4_read_X4_goesInto
set_option maxRecDepth 20000 in
theorem ggX4_read_X4_fails : GoodIn wsX4_read wsX4_fails := goodIn_r _ [45, 46, 79, 80, 81, 82, 83, 84, 85, 86, 87, 88, 89, 90, 91, 92] (by decide +kernel) (by decide +kernel)
set_option maxRecDepth 20000 in
theorem gX4_read_X4_fails : GoodIn wsX4_read (wsV RX4 96 RX4 yX4_fails wsX4_fails) := goodIn_app (goodIn_of _ (by decide +kernel)) ggX4_read_X4_fails
set_option maxRecDepth 20000 in
theorem ggX4_read_X4_last : GoodIn wsX4_read wsX4_last := goodIn_r _ [38] (by decide +kernel) (by decide +kernel)
set_option maxRecDepth 20000 in
theorem gX4_read_X4_last : GoodIn wsX4_read (va_wsS RX4 86 yX4_last wsX4_last) := goodIn_app (goodIn_of _ (by decide +kernel)) ggX4_read_X4_last
set_option maxRecDepth 20000 in
theorem ggX4_read_X4_as : GoodIn wsX4_read wsX4_as := goodIn_r _ [49, 50, 51, 52, 53, 54, 55, 56, 57, 58, 59, 60, 61, 62, 63, 64, 65, 66, 67, 68, 69, 70, 71, 72, 73, 74, 75, 76, 77, 78] (by decide +kernel) (by decide +kernel)
set_option maxRecDepth 20000 in
theorem gX4_read_X4_as : GoodIn wsX4_read (va_wsS RX4 111 yX4_as wsX4_as) := goodIn_app (goodIn_of _ (by decide +kernel)) ggX4_read_X4_as
theorem dX4_read_0 : decode cX4_read 0 = .ok (.iload_n 1, 1) := by decide +kernel
theorem dX4_read_1 : decode cX4_read 1 = .ok (.invokestatic 89, 3) := by decide +kernel
theorem dX4_read_4 : decode cX4_read 4 = .ok (.ifCond .eq 20, 3) := by decide +kernel
theorem dX4_read_7 : decode cX4_read 7 = .ok (.iload_n 2, 1) := by decide +kernel
theorem dX4_read_8 : decode cX4_read 8 = .ok (.iconst 1, 1) := by decide +kernel
theorem dX4_read_9 : decode cX4_read 9 = .ok (.iconst 3, 1) := by decide +kernel
theorem dX4_read_10 : decode cX4_read 10 = .ok (.invokestatic 36, 3) := by decide +kernel
theorem dX4_read_13 : decode cX4_read 13 = .ok (.ifCond .eq 11, 3) := by decide +kernel
theorem dX4_read_16 : decode cX4_read 16 = .ok (.iload 6, 2) := by decide +kernel
theorem dX4_read_18 : decode cX4_read 18 = .ok (.invokestatic 93, 3) := by decide +kernel
theorem dX4_read_21 : decode cX4_read 21 = .ok (.ifCond .ne 5, 3) := by decide +kernel
theorem dX4_read_24 : decode cX4_read 24 = .ok (.iconst (-1), 1) := by decide +kernel
theorem dX4_read_25 : decode cX4_read 25 = .ok (.ireturn, 1) := by decide +kernel
theorem dX4_read_26 : decode cX4_read 26 = .ok (.aload_n 0, 1) := by decide +kernel
theorem dX4_read_27 : decode cX4_read 27 = .ok (.iload_n 1, 1) := by decide +kernel
theorem dX4_read_28 : decode cX4_read 28 = .ok (.iload_n 2, 1) := by decide +kernel
theorem dX4_read_29 : decode cX4_read 29 = .ok (.iload_n 3, 1) := by decide +kernel
theorem dX4_read_30 : decode cX4_read 30 = .ok (.iload 4, 2) := by decide +kernel
theorem dX4_read_32 : decode cX4_read 32 = .ok (.iload 5, 2) := by decide +kernel
theorem dX4_read_34 : decode cX4_read 34 = .ok (.invokevirtual 104, 3) := by decide +kernel
theorem dX4_read_37 : decode cX4_read 37 = .ok (.istore 7, 2) := by decide +kernel
theorem dX4_read_39 : decode cX4_read 39 = .ok (.iload 7, 2) := by decide +kernel
theorem dX4_read_41 : decode cX4_read 41 = .ok (.ifCond .ne 23, 3) := by decide +kernel
theorem dX4_read_44 : decode cX4_read 44 = .ok (.aload_n 0, 1) := by decide +kernel
theorem dX4_read_45 : decode cX4_read 45 = .ok (.getfield 7, 3) := by decide +kernel
theorem dX4_read_48 : decode cX4_read 48 = .ok (.aload_n 0, 1) := by decide +kernel
theorem dX4_read_49 : decode cX4_read 49 = .ok (.getfield 68, 3) := by decide +kernel
theorem dX4_read_52 : decode cX4_read 52 = .ok (.iaload, 1) := by decide +kernel
theorem dX4_read_53 : decode cX4_read 53 = .ok (.iload 6, 2) := by decide +kernel
theorem dX4_read_55 : decode cX4_read 55 = .ok (.invokestatic 107, 3) := by decide +kernel
theorem dX4_read_58 : decode cX4_read 58 = .ok (.ifCond .ne 6, 3) := by decide +kernel
theorem dX4_read_61 : decode cX4_read 61 = .ok (.iconst 4, 1) := by decide +kernel
theorem dX4_read_62 : decode cX4_read 62 = .ok (.istore 7, 2) := by decide +kernel
theorem dX4_read_64 : decode cX4_read 64 = .ok (.iload 7, 2) := by decide +kernel
theorem dX4_read_66 : decode cX4_read 66 = .ok (.ifCond .eq 10, 3) := by decide +kernel
theorem dX4_read_69 : decode cX4_read 69 = .ok (.aload_n 0, 1) := by decide +kernel
theorem dX4_read_70 : decode cX4_read 70 = .ok (.iload 7, 2) := by decide +kernel
theorem dX4_read_72 : decode cX4_read 72 = .ok (.invokevirtual 96, 3) := by decide +kernel
theorem dX4_read_75 : decode cX4_read 75 = .ok (.ireturn, 1) := by decide +kernel
theorem dX4_read_76 : decode cX4_read 76 = .ok (.aload_n 0, 1) := by decide +kernel
theorem dX4_read_77 : decode cX4_read 77 = .ok (.aload_n 0, 1) := by decide +kernel
theorem dX4_read_78 : decode cX4_read 78 = .ok (.getfield 7, 3) := by decide +kernel
theorem dX4_read_81 : decode cX4_read 81 = .ok (.aload_n 0, 1) := by decide +kernel
theorem dX4_read_82 : decode cX4_read 82 = .ok (.getfield 68, 3) := by decide +kernel
theorem dX4_read_85 : decode cX4_read 85 = .ok (.iaload, 1) := by decide +kernel
theorem dX4_read_86 : decode cX4_read 86 = .ok (.iload 6, 2) := by decide +kernel
theorem dX4_read_88 : decode cX4_read 88 = .ok (.aload_n 0, 1) := by decide +kernel
theorem dX4_read_89 : decode cX4_read 89 = .ok (.getfield 19, 3) := by decide +kernel
theorem dX4_read_92 : decode cX4_read 92 = .ok (.bipush 8, 2) := by decide +kernel
theorem dX4_read_94 : decode cX4_read 94 = .ok (.aload_n 0, 1) := by decide +kernel
theorem dX4_read_95 : decode cX4_read 95 = .ok (.getfield 68, 3) := by decide +kernel
theorem dX4_read_98 : decode cX4_read 98 = .ok (.imul, 1) := by decide +kernel
theorem dX4_read_99 : decode cX4_read 99 = .ok (.iload_n 2, 1) := by decide +kernel
theorem dX4_read_100 : decode cX4_read 100 = .ok (.iload_n 3, 1) := by decide +kernel
theorem dX4_read_101 : decode cX4_read 101 = .ok (.iload 4, 2) := by decide +kernel
theorem dX4_read_103 : decode cX4_read 103 = .ok (.iload 5, 2) := by decide +kernel
theorem dX4_read_105 : decode cX4_read 105 = .ok (.invokestatic 86, 3) := by decide +kernel
theorem dX4_read_108 : decode cX4_read 108 = .ok (.iadd, 1) := by decide +kernel
theorem dX4_read_109 : decode cX4_read 109 = .ok (.laload, 1) := by decide +kernel
theorem dX4_read_110 : decode cX4_read 110 = .ok (.invokestatic 111, 3) := by decide +kernel
theorem dX4_read_113 : decode cX4_read 113 = .ok (.putfield 100, 3) := by decide +kernel
theorem dX4_read_116 : decode cX4_read 116 = .ok (.iconst 1, 1) := by decide +kernel
theorem dX4_read_117 : decode cX4_read 117 = .ok (.ireturn, 1) := by decide +kernel
set_option maxRecDepth 20000 in
theorem ggX4_write_X4_isBox : GoodIn wsX4_write wsX4_isBox := goodIn_r _ [7, 8, 9, 6, 10] (by decide +kernel) (by decide +kernel)
set_option maxRecDepth 20000 in
theorem gX4_write_X4_isBox : GoodIn wsX4_write (va_wsS RX4 89 yX4_isBox wsX4_isBox) := goodIn_app (goodIn_of _ (by decide +kernel)) ggX4_write_X4_isBox
set_option maxRecDepth 20000 in
theorem ggX4_write_X4_in : GoodIn wsX4_write wsX4_in := goodIn_r _ [10] (by decide +kernel) (by decide +kernel)
set_option maxRecDepth 20000 in
theorem gX4_write_X4_in : GoodIn wsX4_write (va_wsS RX4 36 yX4_in wsX4_in) := goodIn_app (goodIn_of _ (by decide +kernel)) ggX4_write_X4_in
set_option maxRecDepth 20000 in
theorem ggX4_write_X4_isKind : GoodIn wsX4_write wsX4_isKind := goodIn_r _ [13, 8, 9, 6, 10] (by decide +kernel) (by decide +kernel)
set_option maxRecDepth 20000 in
theorem gX4_write_X4_isKind : GoodIn wsX4_write (va_wsS RX4 93 yX4_isKind wsX4_isKind) := goodIn_app (goodIn_of _ (by decide +kernel)) ggX4_write_X4_isKind
set_option maxRecDepth 20000 in
theorem ggX4_write_X4_goToNumber : GoodIn wsX4_write wsX4_goToNumber := goodIn_r _ [17, 18, 2, 19, 20, 21, 22, 6, 23, 24, 25, 26, 27, 28, 29, 30, 8, 9, 10, 31, 32, 33, 34, 35, 36, 37, 86, 87, 88, 89, 90, 91, 92, 93, 94, 95, 96, 97, 98, 99] (by decide +kernel) (by decide +kernel)
set_option maxRecDepth 20000 in
theorem gX4_write_X4_goToNumber : GoodIn wsX4_write (wsV RX4 104 RX4 yX4_goToNumber wsX4_goToNumber) := goodIn_app (goodIn_of _ (by decide +kernel)) ggX4_write_X4_goToNumber
set_option maxRecDepth 20000 in
theorem ggX4_write_X4_goesInto : GoodIn wsX4_write wsX4_goesInto := goodIn_r _ [40] (by decide +kernel) (by decide +kernel)
set_option maxRecDepth 20000 in
theorem gX4_write_X4_goesInto : GoodIn wsX4_write (va_wsS RX4 107 yX4_goesInto wsX4_goesInto) := goodIn_app (goodIn_of _ (by decide +kernel)) ggX4_write_X4_goesInto
set_option maxRecDepth 20000 in
theorem ggX4_write_X4_fails : GoodIn wsX4_write wsX4_fails := goodIn_r _ [44, 45, 86, 87, 88, 89, 90, 91, 92, 93, 94, 95, 96, 97, 98, 99] (by decide +kernel) (by decide +kernel)
set_option maxRecDepth 20000 in
theorem gX4_write_X4_fails : GoodIn wsX4_write (wsV RX4 96 RX4 yX4_fails wsX4_fails) := goodIn_app (goodIn_of _ (by decide +kernel)) ggX4_write_X4_fails
set_option maxRecDepth 20000 in
theorem ggX4_write_X4_last : GoodIn wsX4_write wsX4_last := goodIn_r _ [37] (by decide +kernel) (by decide +kernel)
set_option maxRecDepth 20000 in
theorem gX4_write_X4_last : GoodIn wsX4_write (va_wsS RX4 86 yX4_last wsX4_last) := goodIn_app (goodIn_of _ (by decide +kernel)) ggX4_write_X4_last
set_option maxRecDepth 20000 in
theorem ggX4_write_X4_ofBits : GoodIn wsX4_write wsX4_ofBits := goodIn_r _ [48, 49, 50, 51, 52, 53, 54, 55] (by decide +kernel) (by decide +kernel)
set_option maxRecDepth 20000 in
theorem gX4_write_X4_ofBits : GoodIn wsX4_write (va_wsS RX4 115 yX4_ofBits wsX4_ofBits) := goodIn_app (goodIn_of _ (by decide +kernel)) ggX4_write_X4_ofBits
set_option maxRecDepth 20000 in
theorem ggX4_write_X4_as : GoodIn wsX4_write wsX4_as := goodIn_r _ [58, 59, 60, 61, 62, 52, 55, 63, 64, 65, 66, 67, 68, 69, 70, 71, 72, 73, 74, 75, 76, 77, 78, 79, 80, 81, 82, 83, 84, 85] (by decide +kernel) (by decide +kernel)
set_option maxRecDepth 20000 in
theorem gX4_write_X4_as : GoodIn wsX4_write (va_wsS RX4 111 yX4_as wsX4_as) := goodIn_app (goodIn_of _ (by decide +kernel)) ggX4_write_X4_as
theorem dX4_write_0 : decode cX4_write 0 = .ok (.iload_n 1, 1) := by decide +kernel
theorem dX4_write_1 : decode cX4_write 1 = .ok (.invokestatic 89, 3) := by decide +kernel
theorem dX4_write_4 : decode cX4_write 4 = .ok (.ifCond .eq 20, 3) := by decide +kernel
theorem dX4_write_7 : decode cX4_write 7 = .ok (.iload_n 2, 1) := by decide +kernel
theorem dX4_write_8 : decode cX4_write 8 = .ok (.iconst 1, 1) := by decide +kernel
theorem dX4_write_9 : decode cX4_write 9 = .ok (.iconst 3, 1) := by decide +kernel
theorem dX4_write_10 : decode cX4_write 10 = .ok (.invokestatic 36, 3) := by decide +kernel
theorem dX4_write_13 : decode cX4_write 13 = .ok (.ifCond .eq 11, 3) := by decide +kernel
theorem dX4_write_16 : decode cX4_write 16 = .ok (.iload 6, 2) := by decide +kernel
