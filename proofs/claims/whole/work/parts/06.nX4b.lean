theorem dX4_write_18 : decode cX4_write 18 = .ok (.invokestatic 93, 3) := by decide +kernel
theorem dX4_write_21 : decode cX4_write 21 = .ok (.ifCond .ne 5, 3) := by decide +kernel
theorem dX4_write_24 : decode cX4_write 24 = .ok (.iconst (-1), 1) := by decide +kernel
theorem dX4_write_25 : decode cX4_write 25 = .ok (.ireturn, 1) := by decide +kernel
theorem dX4_write_26 : decode cX4_write 26 = .ok (.aload_n 0, 1) := by decide +kernel
theorem dX4_write_27 : decode cX4_write 27 = .ok (.iload_n 1, 1) := by decide +kernel
theorem dX4_write_28 : decode cX4_write 28 = .ok (.iload_n 2, 1) := by decide +kernel
theorem dX4_write_29 : decode cX4_write 29 = .ok (.iload_n 3, 1) := by decide +kernel
theorem dX4_write_30 : decode cX4_write 30 = .ok (.iload 4, 2) := by decide +kernel
theorem dX4_write_32 : decode cX4_write 32 = .ok (.iload 5, 2) := by decide +kernel
theorem dX4_write_34 : decode cX4_write 34 = .ok (.invokevirtual 104, 3) := by decide +kernel
theorem dX4_write_37 : decode cX4_write 37 = .ok (.istore 9, 2) := by decide +kernel
theorem dX4_write_39 : decode cX4_write 39 = .ok (.iload 9, 2) := by decide +kernel
theorem dX4_write_41 : decode cX4_write 41 = .ok (.ifCond .ne 23, 3) := by decide +kernel
theorem dX4_write_44 : decode cX4_write 44 = .ok (.iload 6, 2) := by decide +kernel
theorem dX4_write_46 : decode cX4_write 46 = .ok (.aload_n 0, 1) := by decide +kernel
theorem dX4_write_47 : decode cX4_write 47 = .ok (.getfield 7, 3) := by decide +kernel
theorem dX4_write_50 : decode cX4_write 50 = .ok (.aload_n 0, 1) := by decide +kernel
theorem dX4_write_51 : decode cX4_write 51 = .ok (.getfield 68, 3) := by decide +kernel
theorem dX4_write_54 : decode cX4_write 54 = .ok (.iaload, 1) := by decide +kernel
theorem dX4_write_55 : decode cX4_write 55 = .ok (.invokestatic 107, 3) := by decide +kernel
theorem dX4_write_58 : decode cX4_write 58 = .ok (.ifCond .ne 6, 3) := by decide +kernel
theorem dX4_write_61 : decode cX4_write 61 = .ok (.iconst 4, 1) := by decide +kernel
theorem dX4_write_62 : decode cX4_write 62 = .ok (.istore 9, 2) := by decide +kernel
theorem dX4_write_64 : decode cX4_write 64 = .ok (.iload 9, 2) := by decide +kernel
theorem dX4_write_66 : decode cX4_write 66 = .ok (.ifCond .eq 10, 3) := by decide +kernel
theorem dX4_write_69 : decode cX4_write 69 = .ok (.aload_n 0, 1) := by decide +kernel
theorem dX4_write_70 : decode cX4_write 70 = .ok (.iload 9, 2) := by decide +kernel
theorem dX4_write_72 : decode cX4_write 72 = .ok (.invokevirtual 96, 3) := by decide +kernel
theorem dX4_write_75 : decode cX4_write 75 = .ok (.ireturn, 1) := by decide +kernel
theorem dX4_write_76 : decode cX4_write 76 = .ok (.aload_n 0, 1) := by decide +kernel
theorem dX4_write_77 : decode cX4_write 77 = .ok (.getfield 19, 3) := by decide +kernel
theorem dX4_write_80 : decode cX4_write 80 = .ok (.bipush 8, 2) := by decide +kernel
theorem dX4_write_82 : decode cX4_write 82 = .ok (.aload_n 0, 1) := by decide +kernel
theorem dX4_write_83 : decode cX4_write 83 = .ok (.getfield 68, 3) := by decide +kernel
theorem dX4_write_86 : decode cX4_write 86 = .ok (.imul, 1) := by decide +kernel
theorem dX4_write_87 : decode cX4_write 87 = .ok (.iload_n 2, 1) := by decide +kernel
theorem dX4_write_88 : decode cX4_write 88 = .ok (.iload_n 3, 1) := by decide +kernel
theorem dX4_write_89 : decode cX4_write 89 = .ok (.iload 4, 2) := by decide +kernel
theorem dX4_write_91 : decode cX4_write 91 = .ok (.iload 5, 2) := by decide +kernel
theorem dX4_write_93 : decode cX4_write 93 = .ok (.invokestatic 86, 3) := by decide +kernel
theorem dX4_write_96 : decode cX4_write 96 = .ok (.iadd, 1) := by decide +kernel
theorem dX4_write_97 : decode cX4_write 97 = .ok (.iload 6, 2) := by decide +kernel
theorem dX4_write_99 : decode cX4_write 99 = .ok (.aload_n 0, 1) := by decide +kernel
theorem dX4_write_100 : decode cX4_write 100 = .ok (.getfield 7, 3) := by decide +kernel
theorem dX4_write_103 : decode cX4_write 103 = .ok (.aload_n 0, 1) := by decide +kernel
theorem dX4_write_104 : decode cX4_write 104 = .ok (.getfield 68, 3) := by decide +kernel
theorem dX4_write_107 : decode cX4_write 107 = .ok (.iaload, 1) := by decide +kernel
theorem dX4_write_108 : decode cX4_write 108 = .ok (.iload 6, 2) := by decide +kernel
theorem dX4_write_110 : decode cX4_write 110 = .ok (.lload 7, 2) := by decide +kernel
theorem dX4_write_112 : decode cX4_write 112 = .ok (.invokestatic 115, 3) := by decide +kernel
theorem dX4_write_115 : decode cX4_write 115 = .ok (.invokestatic 111, 3) := by decide +kernel
theorem dX4_write_118 : decode cX4_write 118 = .ok (.lastore, 1) := by decide +kernel
theorem dX4_write_119 : decode cX4_write 119 = .ok (.iconst 1, 1) := by decide +kernel
theorem dX4_write_120 : decode cX4_write 120 = .ok (.ireturn, 1) := by decide +kernel
theorem dX4_fits_0 : decode cX4_fits 0 = .ok (.iload_n 1, 1) := by decide +kernel
theorem dX4_fits_1 : decode cX4_fits 1 = .ok (.iconst (-1), 1) := by decide +kernel
theorem dX4_fits_2 : decode cX4_fits 2 = .ok (.if_icmp .eq 35, 3) := by decide +kernel
theorem dX4_fits_5 : decode cX4_fits 5 = .ok (.aload_n 0, 1) := by decide +kernel
theorem dX4_fits_6 : decode cX4_fits 6 = .ok (.getfield 7, 3) := by decide +kernel
theorem dX4_fits_9 : decode cX4_fits 9 = .ok (.iload_n 1, 1) := by decide +kernel
theorem dX4_fits_10 : decode cX4_fits 10 = .ok (.iaload, 1) := by decide +kernel
theorem dX4_fits_11 : decode cX4_fits 11 = .ok (.aload_n 0, 1) := by decide +kernel
theorem dX4_fits_12 : decode cX4_fits 12 = .ok (.getfield 7, 3) := by decide +kernel
theorem dX4_fits_15 : decode cX4_fits 15 = .ok (.iload_n 2, 1) := by decide +kernel
theorem dX4_fits_16 : decode cX4_fits 16 = .ok (.iaload, 1) := by decide +kernel
theorem dX4_fits_17 : decode cX4_fits 17 = .ok (.if_icmp .ne 24, 3) := by decide +kernel
theorem dX4_fits_20 : decode cX4_fits 20 = .ok (.aload_n 0, 1) := by decide +kernel
theorem dX4_fits_21 : decode cX4_fits 21 = .ok (.getfield 13, 3) := by decide +kernel
theorem dX4_fits_24 : decode cX4_fits 24 = .ok (.iload_n 1, 1) := by decide +kernel
theorem dX4_fits_25 : decode cX4_fits 25 = .ok (.iaload, 1) := by decide +kernel
theorem dX4_fits_26 : decode cX4_fits 26 = .ok (.aload_n 0, 1) := by decide +kernel
theorem dX4_fits_27 : decode cX4_fits 27 = .ok (.getfield 13, 3) := by decide +kernel
theorem dX4_fits_30 : decode cX4_fits 30 = .ok (.iload_n 2, 1) := by decide +kernel
theorem dX4_fits_31 : decode cX4_fits 31 = .ok (.iaload, 1) := by decide +kernel
theorem dX4_fits_32 : decode cX4_fits 32 = .ok (.iconst 1, 1) := by decide +kernel
theorem dX4_fits_33 : decode cX4_fits 33 = .ok (.isub, 1) := by decide +kernel
theorem dX4_fits_34 : decode cX4_fits 34 = .ok (.if_icmp .ne 7, 3) := by decide +kernel
theorem dX4_fits_37 : decode cX4_fits 37 = .ok (.iconst 1, 1) := by decide +kernel
theorem dX4_fits_38 : decode cX4_fits 38 = .ok (.goto 4, 3) := by decide +kernel
theorem dX4_fits_41 : decode cX4_fits 41 = .ok (.iconst 0, 1) := by decide +kernel
theorem dX4_fits_42 : decode cX4_fits 42 = .ok (.ireturn, 1) := by decide +kernel
set_option maxRecDepth 20000 in
theorem ggX4_hang_X4_isBox : GoodIn wsX4_hang wsX4_isBox := goodIn_r _ [9, 10, 11, 8, 12] (by decide +kernel) (by decide +kernel)
set_option maxRecDepth 20000 in
theorem gX4_hang_X4_isBox : GoodIn wsX4_hang (va_wsS RX4 89 yX4_isBox wsX4_isBox) := goodIn_app (goodIn_of _ (by decide +kernel)) ggX4_hang_X4_isBox
set_option maxRecDepth 20000 in
theorem ggX4_hang_X4_in : GoodIn wsX4_hang wsX4_in := goodIn_r _ [12] (by decide +kernel) (by decide +kernel)
set_option maxRecDepth 20000 in
theorem gX4_hang_X4_in : GoodIn wsX4_hang (va_wsS RX4 36 yX4_in wsX4_in) := goodIn_app (goodIn_of _ (by decide +kernel)) ggX4_hang_X4_in
set_option maxRecDepth 20000 in
theorem ggX4_hang_X4_goToRow : GoodIn wsX4_hang wsX4_goToRow := goodIn_r _ [16, 17, 18, 19, 8, 20, 1, 3, 21, 4, 2, 5, 10, 11, 12, 22, 23, 24, 25, 39, 40, 41, 42, 43, 44, 45, 46, 47, 48, 49, 50, 51, 52] (by decide +kernel) (by decide +kernel)
set_option maxRecDepth 20000 in
theorem gX4_hang_X4_goToRow : GoodIn wsX4_hang (wsV RX4 82 RX4 yX4_goToRow wsX4_goToRow) := goodIn_app (goodIn_of _ (by decide +kernel)) ggX4_hang_X4_goToRow
set_option maxRecDepth 20000 in
theorem ggX4_hang_X4_fails : GoodIn wsX4_hang wsX4_fails := goodIn_r _ [29, 30, 39, 40, 41, 42, 43, 44, 45, 46, 47, 48, 49, 50, 51, 52] (by decide +kernel) (by decide +kernel)
set_option maxRecDepth 20000 in
theorem gX4_hang_X4_fails : GoodIn wsX4_hang (wsV RX4 96 RX4 yX4_fails wsX4_fails) := goodIn_app (goodIn_of _ (by decide +kernel)) ggX4_hang_X4_fails
set_option maxRecDepth 20000 in
theorem ggX4_hang_X4_last : GoodIn wsX4_hang wsX4_last := goodIn_r _ [33] (by decide +kernel) (by decide +kernel)
set_option maxRecDepth 20000 in
theorem gX4_hang_X4_last : GoodIn wsX4_hang (va_wsS RX4 86 yX4_last wsX4_last) := goodIn_app (goodIn_of _ (by decide +kernel)) ggX4_hang_X4_last
set_option maxRecDepth 20000 in
theorem ggX4_hang_X4_fits : GoodIn wsX4_hang wsX4_fits := goodIn_r _ [37, 38, 2, 39, 40, 41, 42, 43, 44, 45, 46, 47, 48, 49, 50, 51, 52] (by decide +kernel) (by decide +kernel)
set_option maxRecDepth 20000 in
theorem gX4_hang_X4_fits : GoodIn wsX4_hang (wsV RX4 119 RX4 yX4_fits wsX4_fits) := goodIn_app (goodIn_of _ (by decide +kernel)) ggX4_hang_X4_fits
theorem dX4_hang_0 : decode cX4_hang 0 = .ok (.iload_n 1, 1) := by decide +kernel
theorem dX4_hang_1 : decode cX4_hang 1 = .ok (.invokestatic 89, 3) := by decide +kernel
theorem dX4_hang_4 : decode cX4_hang 4 = .ok (.ifCond .eq 20, 3) := by decide +kernel
theorem dX4_hang_7 : decode cX4_hang 7 = .ok (.iload_n 2, 1) := by decide +kernel
theorem dX4_hang_8 : decode cX4_hang 8 = .ok (.iconst 1, 1) := by decide +kernel
theorem dX4_hang_9 : decode cX4_hang 9 = .ok (.iconst 3, 1) := by decide +kernel
theorem dX4_hang_10 : decode cX4_hang 10 = .ok (.invokestatic 36, 3) := by decide +kernel
theorem dX4_hang_13 : decode cX4_hang 13 = .ok (.ifCond .eq 11, 3) := by decide +kernel
theorem dX4_hang_16 : decode cX4_hang 16 = .ok (.iload 6, 2) := by decide +kernel
theorem dX4_hang_18 : decode cX4_hang 18 = .ok (.invokestatic 89, 3) := by decide +kernel
theorem dX4_hang_21 : decode cX4_hang 21 = .ok (.ifCond .ne 5, 3) := by decide +kernel
theorem dX4_hang_24 : decode cX4_hang 24 = .ok (.iconst (-1), 1) := by decide +kernel
theorem dX4_hang_25 : decode cX4_hang 25 = .ok (.ireturn, 1) := by decide +kernel
theorem dX4_hang_26 : decode cX4_hang 26 = .ok (.aload_n 0, 1) := by decide +kernel
theorem dX4_hang_27 : decode cX4_hang 27 = .ok (.iload_n 1, 1) := by decide +kernel
theorem dX4_hang_28 : decode cX4_hang 28 = .ok (.iload_n 2, 1) := by decide +kernel
theorem dX4_hang_29 : decode cX4_hang 29 = .ok (.iconst 1, 1) := by decide +kernel
theorem dX4_hang_30 : decode cX4_hang 30 = .ok (.isub, 1) := by decide +kernel
theorem dX4_hang_31 : decode cX4_hang 31 = .ok (.iload_n 3, 1) := by decide +kernel
theorem dX4_hang_32 : decode cX4_hang 32 = .ok (.iload 4, 2) := by decide +kernel
theorem dX4_hang_34 : decode cX4_hang 34 = .ok (.invokevirtual 82, 3) := by decide +kernel
theorem dX4_hang_37 : decode cX4_hang 37 = .ok (.istore 7, 2) := by decide +kernel
theorem dX4_hang_39 : decode cX4_hang 39 = .ok (.iload 7, 2) := by decide +kernel
theorem dX4_hang_41 : decode cX4_hang 41 = .ok (.ifCond .eq 10, 3) := by decide +kernel
theorem dX4_hang_44 : decode cX4_hang 44 = .ok (.aload_n 0, 1) := by decide +kernel
theorem dX4_hang_45 : decode cX4_hang 45 = .ok (.iload 7, 2) := by decide +kernel
theorem dX4_hang_47 : decode cX4_hang 47 = .ok (.invokevirtual 96, 3) := by decide +kernel
theorem dX4_hang_50 : decode cX4_hang 50 = .ok (.ireturn, 1) := by decide +kernel
theorem dX4_hang_51 : decode cX4_hang 51 = .ok (.iload_n 2, 1) := by decide +kernel
theorem dX4_hang_52 : decode cX4_hang 52 = .ok (.iload_n 3, 1) := by decide +kernel
theorem dX4_hang_53 : decode cX4_hang 53 = .ok (.iload 4, 2) := by decide +kernel
theorem dX4_hang_55 : decode cX4_hang 55 = .ok (.iload 5, 2) := by decide +kernel
theorem dX4_hang_57 : decode cX4_hang 57 = .ok (.invokestatic 86, 3) := by decide +kernel
theorem dX4_hang_60 : decode cX4_hang 60 = .ok (.istore 8, 2) := by decide +kernel
theorem dX4_hang_62 : decode cX4_hang 62 = .ok (.aload_n 0, 1) := by decide +kernel
theorem dX4_hang_63 : decode cX4_hang 63 = .ok (.getfield 26, 3) := by decide +kernel
theorem dX4_hang_66 : decode cX4_hang 66 = .ok (.iload 6, 2) := by decide +kernel
theorem dX4_hang_68 : decode cX4_hang 68 = .ok (.iaload, 1) := by decide +kernel
theorem dX4_hang_69 : decode cX4_hang 69 = .ok (.istore 9, 2) := by decide +kernel
theorem dX4_hang_71 : decode cX4_hang 71 = .ok (.aload_n 0, 1) := by decide +kernel
theorem dX4_hang_72 : decode cX4_hang 72 = .ok (.getfield 13, 3) := by decide +kernel
theorem dX4_hang_75 : decode cX4_hang 75 = .ok (.aload_n 0, 1) := by decide +kernel
theorem dX4_hang_76 : decode cX4_hang 76 = .ok (.getfield 68, 3) := by decide +kernel
theorem dX4_hang_79 : decode cX4_hang 79 = .ok (.iaload, 1) := by decide +kernel
theorem dX4_hang_80 : decode cX4_hang 80 = .ok (.iconst 1, 1) := by decide +kernel
theorem dX4_hang_81 : decode cX4_hang 81 = .ok (.if_icmp .ne 7, 3) := by decide +kernel
theorem dX4_hang_84 : decode cX4_hang 84 = .ok (.iconst 1, 1) := by decide +kernel
theorem dX4_hang_85 : decode cX4_hang 85 = .ok (.goto 4, 3) := by decide +kernel
theorem dX4_hang_88 : decode cX4_hang 88 = .ok (.iconst 0, 1) := by decide +kernel
theorem dX4_hang_89 : decode cX4_hang 89 = .ok (.istore 10, 2) := by decide +kernel
theorem dX4_hang_91 : decode cX4_hang 91 = .ok (.iload 10, 2) := by decide +kernel
theorem dX4_hang_93 : decode cX4_hang 93 = .ok (.ifCond .eq 15, 3) := by decide +kernel
theorem dX4_hang_96 : decode cX4_hang 96 = .ok (.iload 9, 2) := by decide +kernel
theorem dX4_hang_98 : decode cX4_hang 98 = .ok (.iconst (-1), 1) := by decide +kernel
theorem dX4_hang_99 : decode cX4_hang 99 = .ok (.if_icmp .ne 9, 3) := by decide +kernel
theorem dX4_hang_102 : decode cX4_hang 102 = .ok (.aload_n 0, 1) := by decide +kernel
theorem dX4_hang_103 : decode cX4_hang 103 = .ok (.iconst 4, 1) := by decide +kernel
theorem dX4_hang_104 : decode cX4_hang 104 = .ok (.invokevirtual 96, 3) := by decide +kernel
theorem dX4_hang_107 : decode cX4_hang 107 = .ok (.ireturn, 1) := by decide +kernel
theorem dX4_hang_108 : decode cX4_hang 108 = .ok (.iload 8, 2) := by decide +kernel
theorem dX4_hang_110 : decode cX4_hang 110 = .ok (.iconst 0, 1) := by decide +kernel
theorem dX4_hang_111 : decode cX4_hang 111 = .ok (.aload_n 0, 1) := by decide +kernel
theorem dX4_hang_112 : decode cX4_hang 112 = .ok (.getfield 16, 3) := by decide +kernel
theorem dX4_hang_115 : decode cX4_hang 115 = .ok (.aload_n 0, 1) := by decide +kernel
theorem dX4_hang_116 : decode cX4_hang 116 = .ok (.getfield 68, 3) := by decide +kernel
theorem dX4_hang_119 : decode cX4_hang 119 = .ok (.iaload, 1) := by decide +kernel
theorem dX4_hang_120 : decode cX4_hang 120 = .ok (.iconst 1, 1) := by decide +kernel
theorem dX4_hang_121 : decode cX4_hang 121 = .ok (.isub, 1) := by decide +kernel
theorem dX4_hang_122 : decode cX4_hang 122 = .ok (.invokestatic 36, 3) := by decide +kernel
theorem dX4_hang_125 : decode cX4_hang 125 = .ok (.ifCond .ne 9, 3) := by decide +kernel
theorem dX4_hang_128 : decode cX4_hang 128 = .ok (.aload_n 0, 1) := by decide +kernel
theorem dX4_hang_129 : decode cX4_hang 129 = .ok (.iconst 3, 1) := by decide +kernel
theorem dX4_hang_130 : decode cX4_hang 130 = .ok (.invokevirtual 96, 3) := by decide +kernel
theorem dX4_hang_133 : decode cX4_hang 133 = .ok (.ireturn, 1) := by decide +kernel
theorem dX4_hang_134 : decode cX4_hang 134 = .ok (.iload 10, 2) := by decide +kernel
theorem dX4_hang_136 : decode cX4_hang 136 = .ok (.ifCond .ne 16, 3) := by decide +kernel
theorem dX4_hang_139 : decode cX4_hang 139 = .ok (.aload_n 0, 1) := by decide +kernel
theorem dX4_hang_140 : decode cX4_hang 140 = .ok (.iload 9, 2) := by decide +kernel
theorem dX4_hang_142 : decode cX4_hang 142 = .ok (.aload_n 0, 1) := by decide +kernel
theorem dX4_hang_143 : decode cX4_hang 143 = .ok (.getfield 68, 3) := by decide +kernel
theorem dX4_hang_146 : decode cX4_hang 146 = .ok (.invokevirtual 119, 3) := by decide +kernel
theorem dX4_hang_149 : decode cX4_hang 149 = .ok (.ifCond .ne 9, 3) := by decide +kernel
theorem dX4_hang_152 : decode cX4_hang 152 = .ok (.aload_n 0, 1) := by decide +kernel
theorem dX4_hang_153 : decode cX4_hang 153 = .ok (.iconst 4, 1) := by decide +kernel
theorem dX4_hang_154 : decode cX4_hang 154 = .ok (.invokevirtual 96, 3) := by decide +kernel
theorem dX4_hang_157 : decode cX4_hang 157 = .ok (.ireturn, 1) := by decide +kernel
theorem dX4_hang_158 : decode cX4_hang 158 = .ok (.aload_n 0, 1) := by decide +kernel
theorem dX4_hang_159 : decode cX4_hang 159 = .ok (.getfield 23, 3) := by decide +kernel
theorem dX4_hang_162 : decode cX4_hang 162 = .ok (.bipush 8, 2) := by decide +kernel
theorem dX4_hang_164 : decode cX4_hang 164 = .ok (.aload_n 0, 1) := by decide +kernel
theorem dX4_hang_165 : decode cX4_hang 165 = .ok (.getfield 68, 3) := by decide +kernel
theorem dX4_hang_168 : decode cX4_hang 168 = .ok (.imul, 1) := by decide +kernel
theorem dX4_hang_169 : decode cX4_hang 169 = .ok (.iload 8, 2) := by decide +kernel
theorem dX4_hang_171 : decode cX4_hang 171 = .ok (.iadd, 1) := by decide +kernel
theorem dX4_hang_172 : decode cX4_hang 172 = .ok (.iload 9, 2) := by decide +kernel
theorem dX4_hang_174 : decode cX4_hang 174 = .ok (.iastore, 1) := by decide +kernel
theorem dX4_hang_175 : decode cX4_hang 175 = .ok (.iconst 1, 1) := by decide +kernel
theorem dX4_hang_176 : decode cX4_hang 176 = .ok (.ireturn, 1) := by decide +kernel
set_option maxRecDepth 20000 in
theorem ggX4_lift_X4_isBox : GoodIn wsX4_lift wsX4_isBox := goodIn_r _ [7, 8, 9, 6, 10] (by decide +kernel) (by decide +kernel)
set_option maxRecDepth 20000 in
theorem gX4_lift_X4_isBox : GoodIn wsX4_lift (va_wsS RX4 89 yX4_isBox wsX4_isBox) := goodIn_app (goodIn_of _ (by decide +kernel)) ggX4_lift_X4_isBox
set_option maxRecDepth 20000 in
theorem ggX4_lift_X4_in : GoodIn wsX4_lift wsX4_in := goodIn_r _ [10] (by decide +kernel) (by decide +kernel)
set_option maxRecDepth 20000 in
theorem gX4_lift_X4_in : GoodIn wsX4_lift (va_wsS RX4 36 yX4_in wsX4_in) := goodIn_app (goodIn_of _ (by decide +kernel)) ggX4_lift_X4_in
set_option maxRecDepth 20000 in
theorem ggX4_lift_X4_go : GoodIn wsX4_lift wsX4_go := goodIn_r _ [14, 2, 3, 1, 15, 16, 17, 8, 9, 6, 10, 23, 24, 25, 26, 27, 28, 29, 30, 31, 32, 33, 34, 35, 36] (by decide +kernel) (by decide +kernel)
set_option maxRecDepth 20000 in
theorem gX4_lift_X4_go : GoodIn wsX4_lift (wsV RX4 74 RX4 yX4_go wsX4_go) := goodIn_app (goodIn_of _ (by decide +kernel)) ggX4_lift_X4_go
set_option maxRecDepth 20000 in
theorem ggX4_lift_X4_fails : GoodIn wsX4_lift wsX4_fails := goodIn_r _ [21, 22, 23, 24, 25, 26, 27, 28, 29, 30, 31, 32, 33, 34, 35, 36] (by decide +kernel) (by decide +kernel)
set_option maxRecDepth 20000 in
theorem gX4_lift_X4_fails : GoodIn wsX4_lift (wsV RX4 96 RX4 yX4_fails wsX4_fails) := goodIn_app (goodIn_of _ (by decide +kernel)) ggX4_lift_X4_fails
theorem dX4_lift_0 : decode cX4_lift 0 = .ok (.iload_n 1, 1) := by decide +kernel
theorem dX4_lift_1 : decode cX4_lift 1 = .ok (.invokestatic 89, 3) := by decide +kernel
theorem dX4_lift_4 : decode cX4_lift 4 = .ok (.ifCond .eq 20, 3) := by decide +kernel
theorem dX4_lift_7 : decode cX4_lift 7 = .ok (.iload_n 2, 1) := by decide +kernel
theorem dX4_lift_8 : decode cX4_lift 8 = .ok (.iconst 1, 1) := by decide +kernel
theorem dX4_lift_9 : decode cX4_lift 9 = .ok (.iconst 3, 1) := by decide +kernel
theorem dX4_lift_10 : decode cX4_lift 10 = .ok (.invokestatic 36, 3) := by decide +kernel
theorem dX4_lift_13 : decode cX4_lift 13 = .ok (.ifCond .eq 11, 3) := by decide +kernel
theorem dX4_lift_16 : decode cX4_lift 16 = .ok (.iload 6, 2) := by decide +kernel
theorem dX4_lift_18 : decode cX4_lift 18 = .ok (.invokestatic 89, 3) := by decide +kernel
theorem dX4_lift_21 : decode cX4_lift 21 = .ok (.ifCond .ne 5, 3) := by decide +kernel
theorem dX4_lift_24 : decode cX4_lift 24 = .ok (.iconst (-1), 1) := by decide +kernel
theorem dX4_lift_25 : decode cX4_lift 25 = .ok (.ireturn, 1) := by decide +kernel
theorem dX4_lift_26 : decode cX4_lift 26 = .ok (.aload_n 0, 1) := by decide +kernel
theorem dX4_lift_27 : decode cX4_lift 27 = .ok (.iload_n 1, 1) := by decide +kernel
theorem dX4_lift_28 : decode cX4_lift 28 = .ok (.iload_n 2, 1) := by decide +kernel
theorem dX4_lift_29 : decode cX4_lift 29 = .ok (.iload_n 3, 1) := by decide +kernel
theorem dX4_lift_30 : decode cX4_lift 30 = .ok (.iload 4, 2) := by decide +kernel
theorem dX4_lift_32 : decode cX4_lift 32 = .ok (.iload 5, 2) := by decide +kernel
theorem dX4_lift_34 : decode cX4_lift 34 = .ok (.invokevirtual 74, 3) := by decide +kernel
theorem dX4_lift_37 : decode cX4_lift 37 = .ok (.istore 7, 2) := by decide +kernel
theorem dX4_lift_39 : decode cX4_lift 39 = .ok (.iload 7, 2) := by decide +kernel
theorem dX4_lift_41 : decode cX4_lift 41 = .ok (.ifCond .ne 14, 3) := by decide +kernel
theorem dX4_lift_44 : decode cX4_lift 44 = .ok (.aload_n 0, 1) := by decide +kernel
theorem dX4_lift_45 : decode cX4_lift 45 = .ok (.getfield 71, 3) := by decide +kernel
theorem dX4_lift_48 : decode cX4_lift 48 = .ok (.iconst (-1), 1) := by decide +kernel
theorem dX4_lift_49 : decode cX4_lift 49 = .ok (.if_icmp .eq 6, 3) := by decide +kernel
theorem dX4_lift_52 : decode cX4_lift 52 = .ok (.iconst 2, 1) := by decide +kernel
theorem dX4_lift_53 : decode cX4_lift 53 = .ok (.istore 7, 2) := by decide +kernel
theorem dX4_lift_55 : decode cX4_lift 55 = .ok (.iload 7, 2) := by decide +kernel
theorem dX4_lift_57 : decode cX4_lift 57 = .ok (.ifCond .eq 10, 3) := by decide +kernel
theorem dX4_lift_60 : decode cX4_lift 60 = .ok (.aload_n 0, 1) := by decide +kernel
theorem dX4_lift_61 : decode cX4_lift 61 = .ok (.iload 7, 2) := by decide +kernel
theorem dX4_lift_63 : decode cX4_lift 63 = .ok (.invokevirtual 96, 3) := by decide +kernel
theorem dX4_lift_66 : decode cX4_lift 66 = .ok (.ireturn, 1) := by decide +kernel
theorem dX4_lift_67 : decode cX4_lift 67 = .ok (.aload_n 0, 1) := by decide +kernel
theorem dX4_lift_68 : decode cX4_lift 68 = .ok (.getfield 26, 3) := by decide +kernel
theorem dX4_lift_71 : decode cX4_lift 71 = .ok (.iload 6, 2) := by decide +kernel
theorem dX4_lift_73 : decode cX4_lift 73 = .ok (.aload_n 0, 1) := by decide +kernel
theorem dX4_lift_74 : decode cX4_lift 74 = .ok (.getfield 68, 3) := by decide +kernel
theorem dX4_lift_77 : decode cX4_lift 77 = .ok (.iastore, 1) := by decide +kernel
theorem dX4_lift_78 : decode cX4_lift 78 = .ok (.aload_n 0, 1) := by decide +kernel
theorem dX4_lift_79 : decode cX4_lift 79 = .ok (.getfield 68, 3) := by decide +kernel
theorem dX4_lift_82 : decode cX4_lift 82 = .ok (.iconst (-1), 1) := by decide +kernel
theorem dX4_lift_83 : decode cX4_lift 83 = .ok (.if_icmp .ne 7, 3) := by decide +kernel
theorem dX4_lift_86 : decode cX4_lift 86 = .ok (.iconst 0, 1) := by decide +kernel
theorem dX4_lift_87 : decode cX4_lift 87 = .ok (.goto 4, 3) := by decide +kernel
theorem dX4_lift_90 : decode cX4_lift 90 = .ok (.iconst 1, 1) := by decide +kernel
theorem dX4_lift_91 : decode cX4_lift 91 = .ok (.ireturn, 1) := by decide +kernel
set_option maxRecDepth 20000 in
theorem ggX4_turn_X4_isBox : GoodIn wsX4_turn wsX4_isBox := goodIn_r _ [8, 9, 10, 7, 11] (by decide +kernel) (by decide +kernel)
set_option maxRecDepth 20000 in
theorem gX4_turn_X4_isBox : GoodIn wsX4_turn (va_wsS RX4 89 yX4_isBox wsX4_isBox) := goodIn_app (goodIn_of _ (by decide +kernel)) ggX4_turn_X4_isBox
set_option maxRecDepth 20000 in
theorem ggX4_turn_X4_in : GoodIn wsX4_turn wsX4_in := goodIn_r _ [11] (by decide +kernel) (by decide +kernel)
set_option maxRecDepth 20000 in
theorem gX4_turn_X4_in : GoodIn wsX4_turn (va_wsS RX4 36 yX4_in wsX4_in) := goodIn_app (goodIn_of _ (by decide +kernel)) ggX4_turn_X4_in
set_option maxRecDepth 20000 in
theorem ggX4_turn_X4_goToRow : GoodIn wsX4_turn wsX4_goToRow := goodIn_r _ [15, 16, 17, 18, 7, 19, 20, 2, 21, 1, 22, 4, 9, 10, 11, 23, 24, 25, 26, 32, 33, 34, 35, 36, 37, 38, 39, 40, 41, 42, 43, 44, 45] (by decide +kernel) (by decide +kernel)
set_option maxRecDepth 20000 in
theorem gX4_turn_X4_goToRow : GoodIn wsX4_turn (wsV RX4 82 RX4 yX4_goToRow wsX4_goToRow) := goodIn_app (goodIn_of _ (by decide +kernel)) ggX4_turn_X4_goToRow
set_option maxRecDepth 20000 in
theorem ggX4_turn_X4_fails : GoodIn wsX4_turn wsX4_fails := goodIn_r _ [30, 31, 32, 33, 34, 35, 36, 37, 38, 39, 40, 41, 42, 43, 44, 45] (by decide +kernel) (by decide +kernel)
set_option maxRecDepth 20000 in
theorem gX4_turn_X4_fails : GoodIn wsX4_turn (wsV RX4 96 RX4 yX4_fails wsX4_fails) := goodIn_app (goodIn_of _ (by decide +kernel)) ggX4_turn_X4_fails
theorem dX4_turn_0 : decode cX4_turn 0 = .ok (.iload_n 1, 1) := by decide +kernel
theorem dX4_turn_1 : decode cX4_turn 1 = .ok (.invokestatic 89, 3) := by decide +kernel
theorem dX4_turn_4 : decode cX4_turn 4 = .ok (.ifCond .eq 12, 3) := by decide +kernel
theorem dX4_turn_7 : decode cX4_turn 7 = .ok (.iload_n 2, 1) := by decide +kernel
theorem dX4_turn_8 : decode cX4_turn 8 = .ok (.iconst 0, 1) := by decide +kernel
theorem dX4_turn_9 : decode cX4_turn 9 = .ok (.iconst 2, 1) := by decide +kernel
theorem dX4_turn_10 : decode cX4_turn 10 = .ok (.invokestatic 36, 3) := by decide +kernel
theorem dX4_turn_13 : decode cX4_turn 13 = .ok (.ifCond .ne 5, 3) := by decide +kernel
theorem dX4_turn_16 : decode cX4_turn 16 = .ok (.iconst (-1), 1) := by decide +kernel
theorem dX4_turn_17 : decode cX4_turn 17 = .ok (.ireturn, 1) := by decide +kernel
theorem dX4_turn_18 : decode cX4_turn 18 = .ok (.aload_n 0, 1) := by decide +kernel
theorem dX4_turn_19 : decode cX4_turn 19 = .ok (.iload_n 1, 1) := by decide +kernel
theorem dX4_turn_20 : decode cX4_turn 20 = .ok (.iload_n 2, 1) := by decide +kernel
theorem dX4_turn_21 : decode cX4_turn 21 = .ok (.iload_n 3, 1) := by decide +kernel
theorem dX4_turn_22 : decode cX4_turn 22 = .ok (.iload 4, 2) := by decide +kernel
theorem dX4_turn_24 : decode cX4_turn 24 = .ok (.invokevirtual 82, 3) := by decide +kernel
theorem dX4_turn_27 : decode cX4_turn 27 = .ok (.istore 7, 2) := by decide +kernel
theorem dX4_turn_29 : decode cX4_turn 29 = .ok (.iload 7, 2) := by decide +kernel
theorem dX4_turn_31 : decode cX4_turn 31 = .ok (.ifCond .ne 46, 3) := by decide +kernel
theorem dX4_turn_34 : decode cX4_turn 34 = .ok (.iload 5, 2) := by decide +kernel
theorem dX4_turn_36 : decode cX4_turn 36 = .ok (.iconst 0, 1) := by decide +kernel
theorem dX4_turn_37 : decode cX4_turn 37 = .ok (.aload_n 0, 1) := by decide +kernel
theorem dX4_turn_38 : decode cX4_turn 38 = .ok (.getfield 16, 3) := by decide +kernel
theorem dX4_turn_41 : decode cX4_turn 41 = .ok (.aload_n 0, 1) := by decide +kernel
theorem dX4_turn_42 : decode cX4_turn 42 = .ok (.getfield 68, 3) := by decide +kernel
theorem dX4_turn_45 : decode cX4_turn 45 = .ok (.iaload, 1) := by decide +kernel
theorem dX4_turn_46 : decode cX4_turn 46 = .ok (.iconst 1, 1) := by decide +kernel
theorem dX4_turn_47 : decode cX4_turn 47 = .ok (.isub, 1) := by decide +kernel
theorem dX4_turn_48 : decode cX4_turn 48 = .ok (.invokestatic 36, 3) := by decide +kernel
theorem dX4_turn_51 : decode cX4_turn 51 = .ok (.ifCond .eq 23, 3) := by decide +kernel
theorem dX4_turn_54 : decode cX4_turn 54 = .ok (.iload 6, 2) := by decide +kernel
theorem dX4_turn_56 : decode cX4_turn 56 = .ok (.iconst 0, 1) := by decide +kernel
theorem dX4_turn_57 : decode cX4_turn 57 = .ok (.aload_n 0, 1) := by decide +kernel
theorem dX4_turn_58 : decode cX4_turn 58 = .ok (.getfield 16, 3) := by decide +kernel
theorem dX4_turn_61 : decode cX4_turn 61 = .ok (.aload_n 0, 1) := by decide +kernel
theorem dX4_turn_62 : decode cX4_turn 62 = .ok (.getfield 68, 3) := by decide +kernel
theorem dX4_turn_65 : decode cX4_turn 65 = .ok (.iaload, 1) := by decide +kernel
theorem dX4_turn_66 : decode cX4_turn 66 = .ok (.iconst 1, 1) := by decide +kernel
theorem dX4_turn_67 : decode cX4_turn 67 = .ok (.isub, 1) := by decide +kernel
theorem dX4_turn_68 : decode cX4_turn 68 = .ok (.invokestatic 36, 3) := by decide +kernel
theorem dX4_turn_71 : decode cX4_turn 71 = .ok (.ifCond .ne 6, 3) := by decide +kernel
theorem dX4_turn_74 : decode cX4_turn 74 = .ok (.iconst 3, 1) := by decide +kernel
theorem dX4_turn_75 : decode cX4_turn 75 = .ok (.istore 7, 2) := by decide +kernel
theorem dX4_turn_77 : decode cX4_turn 77 = .ok (.iload 7, 2) := by decide +kernel
theorem dX4_turn_79 : decode cX4_turn 79 = .ok (.ifCond .eq 10, 3) := by decide +kernel
theorem dX4_turn_82 : decode cX4_turn 82 = .ok (.aload_n 0, 1) := by decide +kernel
theorem dX4_turn_83 : decode cX4_turn 83 = .ok (.iload 7, 2) := by decide +kernel
theorem dX4_turn_85 : decode cX4_turn 85 = .ok (.invokevirtual 96, 3) := by decide +kernel
theorem dX4_turn_88 : decode cX4_turn 88 = .ok (.ireturn, 1) := by decide +kernel
theorem dX4_turn_89 : decode cX4_turn 89 = .ok (.bipush 8, 2) := by decide +kernel
theorem dX4_turn_91 : decode cX4_turn 91 = .ok (.aload_n 0, 1) := by decide +kernel
theorem dX4_turn_92 : decode cX4_turn 92 = .ok (.getfield 68, 3) := by decide +kernel
theorem dX4_turn_95 : decode cX4_turn 95 = .ok (.imul, 1) := by decide +kernel
theorem dX4_turn_96 : decode cX4_turn 96 = .ok (.iload 5, 2) := by decide +kernel
theorem dX4_turn_98 : decode cX4_turn 98 = .ok (.iadd, 1) := by decide +kernel
theorem dX4_turn_99 : decode cX4_turn 99 = .ok (.istore 8, 2) := by decide +kernel
theorem dX4_turn_101 : decode cX4_turn 101 = .ok (.bipush 8, 2) := by decide +kernel
theorem dX4_turn_103 : decode cX4_turn 103 = .ok (.aload_n 0, 1) := by decide +kernel
theorem dX4_turn_104 : decode cX4_turn 104 = .ok (.getfield 68, 3) := by decide +kernel
theorem dX4_turn_107 : decode cX4_turn 107 = .ok (.imul, 1) := by decide +kernel
theorem dX4_turn_108 : decode cX4_turn 108 = .ok (.iload 6, 2) := by decide +kernel
theorem dX4_turn_110 : decode cX4_turn 110 = .ok (.iadd, 1) := by decide +kernel
theorem dX4_turn_111 : decode cX4_turn 111 = .ok (.istore 9, 2) := by decide +kernel
theorem dX4_turn_113 : decode cX4_turn 113 = .ok (.aload_n 0, 1) := by decide +kernel
theorem dX4_turn_114 : decode cX4_turn 114 = .ok (.getfield 19, 3) := by decide +kernel
theorem dX4_turn_117 : decode cX4_turn 117 = .ok (.iload 8, 2) := by decide +kernel
theorem dX4_turn_119 : decode cX4_turn 119 = .ok (.laload, 1) := by decide +kernel
theorem dX4_turn_120 : decode cX4_turn 120 = .ok (.lstore 10, 2) := by decide +kernel
theorem dX4_turn_122 : decode cX4_turn 122 = .ok (.aload_n 0, 1) := by decide +kernel
theorem dX4_turn_123 : decode cX4_turn 123 = .ok (.getfield 19, 3) := by decide +kernel
theorem dX4_turn_126 : decode cX4_turn 126 = .ok (.iload 8, 2) := by decide +kernel
theorem dX4_turn_128 : decode cX4_turn 128 = .ok (.aload_n 0, 1) := by decide +kernel
theorem dX4_turn_129 : decode cX4_turn 129 = .ok (.getfield 19, 3) := by decide +kernel
theorem dX4_turn_132 : decode cX4_turn 132 = .ok (.iload 9, 2) := by decide +kernel
theorem dX4_turn_134 : decode cX4_turn 134 = .ok (.laload, 1) := by decide +kernel
theorem dX4_turn_135 : decode cX4_turn 135 = .ok (.lastore, 1) := by decide +kernel
theorem dX4_turn_136 : decode cX4_turn 136 = .ok (.aload_n 0, 1) := by decide +kernel
theorem dX4_turn_137 : decode cX4_turn 137 = .ok (.getfield 19, 3) := by decide +kernel
theorem dX4_turn_140 : decode cX4_turn 140 = .ok (.iload 9, 2) := by decide +kernel
theorem dX4_turn_142 : decode cX4_turn 142 = .ok (.lload 10, 2) := by decide +kernel
theorem dX4_turn_144 : decode cX4_turn 144 = .ok (.lastore, 1) := by decide +kernel
theorem dX4_turn_145 : decode cX4_turn 145 = .ok (.aload_n 0, 1) := by decide +kernel
theorem dX4_turn_146 : decode cX4_turn 146 = .ok (.getfield 23, 3) := by decide +kernel
theorem dX4_turn_149 : decode cX4_turn 149 = .ok (.iload 8, 2) := by decide +kernel
theorem dX4_turn_151 : decode cX4_turn 151 = .ok (.iaload, 1) := by decide +kernel
theorem dX4_turn_152 : decode cX4_turn 152 = .ok (.istore 12, 2) := by decide +kernel
theorem dX4_turn_154 : decode cX4_turn 154 = .ok (.aload_n 0, 1) := by decide +kernel
theorem dX4_turn_155 : decode cX4_turn 155 = .ok (.getfield 23, 3) := by decide +kernel
theorem dX4_turn_158 : decode cX4_turn 158 = .ok (.iload 8, 2) := by decide +kernel
theorem dX4_turn_160 : decode cX4_turn 160 = .ok (.aload_n 0, 1) := by decide +kernel
theorem dX4_turn_161 : decode cX4_turn 161 = .ok (.getfield 23, 3) := by decide +kernel
theorem dX4_turn_164 : decode cX4_turn 164 = .ok (.iload 9, 2) := by decide +kernel
theorem dX4_turn_166 : decode cX4_turn 166 = .ok (.iaload, 1) := by decide +kernel
theorem dX4_turn_167 : decode cX4_turn 167 = .ok (.iastore, 1) := by decide +kernel
theorem dX4_turn_168 : decode cX4_turn 168 = .ok (.aload_n 0, 1) := by decide +kernel
theorem dX4_turn_169 : decode cX4_turn 169 = .ok (.getfield 23, 3) := by decide +kernel
theorem dX4_turn_172 : decode cX4_turn 172 = .ok (.iload 9, 2) := by decide +kernel
theorem dX4_turn_174 : decode cX4_turn 174 = .ok (.iload 12, 2) := by decide +kernel
theorem dX4_turn_176 : decode cX4_turn 176 = .ok (.iastore, 1) := by decide +kernel
theorem dX4_turn_177 : decode cX4_turn 177 = .ok (.iconst 1, 1) := by decide +kernel
theorem dX4_turn_178 : decode cX4_turn 178 = .ok (.ireturn, 1) := by decide +kernel
set_option maxRecDepth 20000 in
theorem ggX4_fill_X4_isBox : GoodIn wsX4_fill wsX4_isBox := goodIn_r _ [9, 10, 11, 8, 12] (by decide +kernel) (by decide +kernel)
set_option maxRecDepth 20000 in
theorem gX4_fill_X4_isBox : GoodIn wsX4_fill (va_wsS RX4 89 yX4_isBox wsX4_isBox) := goodIn_app (goodIn_of _ (by decide +kernel)) ggX4_fill_X4_isBox
set_option maxRecDepth 20000 in
theorem ggX4_fill_X4_in : GoodIn wsX4_fill wsX4_in := goodIn_r _ [12] (by decide +kernel) (by decide +kernel)
set_option maxRecDepth 20000 in
theorem gX4_fill_X4_in : GoodIn wsX4_fill (va_wsS RX4 36 yX4_in wsX4_in) := goodIn_app (goodIn_of _ (by decide +kernel)) ggX4_fill_X4_in
set_option maxRecDepth 20000 in
theorem ggX4_fill_X4_isKind : GoodIn wsX4_fill wsX4_isKind := goodIn_r _ [15, 10, 11, 8, 12] (by decide +kernel) (by decide +kernel)
set_option maxRecDepth 20000 in
theorem gX4_fill_X4_isKind : GoodIn wsX4_fill (va_wsS RX4 93 yX4_isKind wsX4_isKind) := goodIn_app (goodIn_of _ (by decide +kernel)) ggX4_fill_X4_isKind
set_option maxRecDepth 20000 in
theorem ggX4_fill_X4_goToRow : GoodIn wsX4_fill wsX4_goToRow := goodIn_r _ [19, 20, 21, 22, 8, 23, 24, 2, 25, 1, 3, 26, 10, 11, 12, 27, 28, 29, 30, 79, 80, 81, 82, 83, 84, 85, 86, 87, 88, 89, 90, 91, 92] (by decide +kernel) (by decide +kernel)
set_option maxRecDepth 20000 in
theorem gX4_fill_X4_goToRow : GoodIn wsX4_fill (wsV RX4 82 RX4 yX4_goToRow wsX4_goToRow) := goodIn_app (goodIn_of _ (by decide +kernel)) ggX4_fill_X4_goToRow
set_option maxRecDepth 20000 in
theorem ggX4_fill_X4_goesInto : GoodIn wsX4_fill wsX4_goesInto := goodIn_r _ [33] (by decide +kernel) (by decide +kernel)
set_option maxRecDepth 20000 in
theorem gX4_fill_X4_goesInto : GoodIn wsX4_fill (va_wsS RX4 107 yX4_goesInto wsX4_goesInto) := goodIn_app (goodIn_of _ (by decide +kernel)) ggX4_fill_X4_goesInto
set_option maxRecDepth 20000 in
theorem ggX4_fill_X4_fails : GoodIn wsX4_fill wsX4_fails := goodIn_r _ [37, 38, 79, 80, 81, 82, 83, 84, 85, 86, 87, 88, 89, 90, 91, 92] (by decide +kernel) (by decide +kernel)
set_option maxRecDepth 20000 in
theorem gX4_fill_X4_fails : GoodIn wsX4_fill (wsV RX4 96 RX4 yX4_fails wsX4_fails) := goodIn_app (goodIn_of _ (by decide +kernel)) ggX4_fill_X4_fails
set_option maxRecDepth 20000 in
theorem ggX4_fill_X4_ofBits : GoodIn wsX4_fill wsX4_ofBits := goodIn_r _ [41, 42, 43, 44, 45, 46, 47, 48] (by decide +kernel) (by decide +kernel)
set_option maxRecDepth 20000 in
theorem gX4_fill_X4_ofBits : GoodIn wsX4_fill (va_wsS RX4 115 yX4_ofBits wsX4_ofBits) := goodIn_app (goodIn_of _ (by decide +kernel)) ggX4_fill_X4_ofBits
set_option maxRecDepth 20000 in
theorem ggX4_fill_X4_as : GoodIn wsX4_fill wsX4_as := goodIn_r _ [51, 52, 53, 54, 55, 45, 48, 56, 57, 58, 59, 60, 61, 62, 63, 64, 65, 66, 67, 68, 69, 70, 71, 72, 73, 74, 75, 76, 77, 78] (by decide +kernel) (by decide +kernel)
set_option maxRecDepth 20000 in
theorem gX4_fill_X4_as : GoodIn wsX4_fill (va_wsS RX4 111 yX4_as wsX4_as) := goodIn_app (goodIn_of _ (by decide +kernel)) ggX4_fill_X4_as
theorem dX4_fill_0 : decode cX4_fill 0 = .ok (.iload_n 1, 1) := by decide +kernel
theorem dX4_fill_1 : decode cX4_fill 1 = .ok (.invokestatic 89, 3) := by decide +kernel
theorem dX4_fill_4 : decode cX4_fill 4 = .ok (.ifCond .eq 20, 3) := by decide +kernel
theorem dX4_fill_7 : decode cX4_fill 7 = .ok (.iload_n 2, 1) := by decide +kernel
theorem dX4_fill_8 : decode cX4_fill 8 = .ok (.iconst 0, 1) := by decide +kernel
theorem dX4_fill_9 : decode cX4_fill 9 = .ok (.iconst 2, 1) := by decide +kernel
theorem dX4_fill_10 : decode cX4_fill 10 = .ok (.invokestatic 36, 3) := by decide +kernel
theorem dX4_fill_13 : decode cX4_fill 13 = .ok (.ifCond .eq 11, 3) := by decide +kernel
theorem dX4_fill_16 : decode cX4_fill 16 = .ok (.iload 5, 2) := by decide +kernel
theorem dX4_fill_18 : decode cX4_fill 18 = .ok (.invokestatic 93, 3) := by decide +kernel
theorem dX4_fill_21 : decode cX4_fill 21 = .ok (.ifCond .ne 5, 3) := by decide +kernel
theorem dX4_fill_24 : decode cX4_fill 24 = .ok (.iconst (-1), 1) := by decide +kernel
theorem dX4_fill_25 : decode cX4_fill 25 = .ok (.ireturn, 1) := by decide +kernel
theorem dX4_fill_26 : decode cX4_fill 26 = .ok (.aload_n 0, 1) := by decide +kernel
theorem dX4_fill_27 : decode cX4_fill 27 = .ok (.iload_n 1, 1) := by decide +kernel
theorem dX4_fill_28 : decode cX4_fill 28 = .ok (.iload_n 2, 1) := by decide +kernel
theorem dX4_fill_29 : decode cX4_fill 29 = .ok (.iload_n 3, 1) := by decide +kernel
theorem dX4_fill_30 : decode cX4_fill 30 = .ok (.iload 4, 2) := by decide +kernel
theorem dX4_fill_32 : decode cX4_fill 32 = .ok (.invokevirtual 82, 3) := by decide +kernel
theorem dX4_fill_35 : decode cX4_fill 35 = .ok (.istore 8, 2) := by decide +kernel
theorem dX4_fill_37 : decode cX4_fill 37 = .ok (.iload 8, 2) := by decide +kernel
theorem dX4_fill_39 : decode cX4_fill 39 = .ok (.ifCond .ne 56, 3) := by decide +kernel
theorem dX4_fill_42 : decode cX4_fill 42 = .ok (.aload_n 0, 1) := by decide +kernel
theorem dX4_fill_43 : decode cX4_fill 43 = .ok (.getfield 16, 3) := by decide +kernel
theorem dX4_fill_46 : decode cX4_fill 46 = .ok (.aload_n 0, 1) := by decide +kernel
theorem dX4_fill_47 : decode cX4_fill 47 = .ok (.getfield 68, 3) := by decide +kernel
theorem dX4_fill_50 : decode cX4_fill 50 = .ok (.iaload, 1) := by decide +kernel
theorem dX4_fill_51 : decode cX4_fill 51 = .ok (.ifCond .le 44, 3) := by decide +kernel
theorem dX4_fill_54 : decode cX4_fill 54 = .ok (.aload_n 0, 1) := by decide +kernel
theorem dX4_fill_55 : decode cX4_fill 55 = .ok (.getfield 13, 3) := by decide +kernel
theorem dX4_fill_58 : decode cX4_fill 58 = .ok (.aload_n 0, 1) := by decide +kernel
theorem dX4_fill_59 : decode cX4_fill 59 = .ok (.getfield 68, 3) := by decide +kernel
theorem dX4_fill_62 : decode cX4_fill 62 = .ok (.iaload, 1) := by decide +kernel
theorem dX4_fill_63 : decode cX4_fill 63 = .ok (.iconst 1, 1) := by decide +kernel
theorem dX4_fill_64 : decode cX4_fill 64 = .ok (.if_icmp .le 7, 3) := by decide +kernel
theorem dX4_fill_67 : decode cX4_fill 67 = .ok (.iconst 2, 1) := by decide +kernel
theorem dX4_fill_68 : decode cX4_fill 68 = .ok (.goto 25, 3) := by decide +kernel
theorem dX4_fill_71 : decode cX4_fill 71 = .ok (.iload 5, 2) := by decide +kernel
theorem dX4_fill_73 : decode cX4_fill 73 = .ok (.aload_n 0, 1) := by decide +kernel
theorem dX4_fill_74 : decode cX4_fill 74 = .ok (.getfield 7, 3) := by decide +kernel
theorem dX4_fill_77 : decode cX4_fill 77 = .ok (.aload_n 0, 1) := by decide +kernel
theorem dX4_fill_78 : decode cX4_fill 78 = .ok (.getfield 68, 3) := by decide +kernel
theorem dX4_fill_81 : decode cX4_fill 81 = .ok (.iaload, 1) := by decide +kernel
theorem dX4_fill_82 : decode cX4_fill 82 = .ok (.invokestatic 107, 3) := by decide +kernel
theorem dX4_fill_85 : decode cX4_fill 85 = .ok (.ifCond .eq 7, 3) := by decide +kernel
theorem dX4_fill_88 : decode cX4_fill 88 = .ok (.iconst 0, 1) := by decide +kernel
theorem dX4_fill_89 : decode cX4_fill 89 = .ok (.goto 4, 3) := by decide +kernel
theorem dX4_fill_92 : decode cX4_fill 92 = .ok (.iconst 4, 1) := by decide +kernel
theorem dX4_fill_93 : decode cX4_fill 93 = .ok (.istore 8, 2) := by decide +kernel
theorem dX4_fill_95 : decode cX4_fill 95 = .ok (.iload 8, 2) := by decide +kernel
theorem dX4_fill_97 : decode cX4_fill 97 = .ok (.ifCond .eq 10, 3) := by decide +kernel
theorem dX4_fill_100 : decode cX4_fill 100 = .ok (.aload_n 0, 1) := by decide +kernel
theorem dX4_fill_101 : decode cX4_fill 101 = .ok (.iload 8, 2) := by decide +kernel
theorem dX4_fill_103 : decode cX4_fill 103 = .ok (.invokevirtual 96, 3) := by decide +kernel
theorem dX4_fill_106 : decode cX4_fill 106 = .ok (.ireturn, 1) := by decide +kernel
theorem dX4_fill_107 : decode cX4_fill 107 = .ok (.iconst 0, 1) := by decide +kernel
theorem dX4_fill_108 : decode cX4_fill 108 = .ok (.istore 9, 2) := by decide +kernel
theorem dX4_fill_110 : decode cX4_fill 110 = .ok (.iload 9, 2) := by decide +kernel
theorem dX4_fill_112 : decode cX4_fill 112 = .ok (.aload_n 0, 1) := by decide +kernel
theorem dX4_fill_113 : decode cX4_fill 113 = .ok (.getfield 16, 3) := by decide +kernel
theorem dX4_fill_116 : decode cX4_fill 116 = .ok (.aload_n 0, 1) := by decide +kernel
theorem dX4_fill_117 : decode cX4_fill 117 = .ok (.getfield 68, 3) := by decide +kernel
theorem dX4_fill_120 : decode cX4_fill 120 = .ok (.iaload, 1) := by decide +kernel
theorem dX4_fill_121 : decode cX4_fill 121 = .ok (.if_icmp .ge 45, 3) := by decide +kernel
theorem dX4_fill_124 : decode cX4_fill 124 = .ok (.aload_n 0, 1) := by decide +kernel
theorem dX4_fill_125 : decode cX4_fill 125 = .ok (.getfield 19, 3) := by decide +kernel
theorem dX4_fill_128 : decode cX4_fill 128 = .ok (.bipush 8, 2) := by decide +kernel
theorem dX4_fill_130 : decode cX4_fill 130 = .ok (.aload_n 0, 1) := by decide +kernel
theorem dX4_fill_131 : decode cX4_fill 131 = .ok (.getfield 68, 3) := by decide +kernel
theorem dX4_fill_134 : decode cX4_fill 134 = .ok (.imul, 1) := by decide +kernel
theorem dX4_fill_135 : decode cX4_fill 135 = .ok (.iload 9, 2) := by decide +kernel
theorem dX4_fill_137 : decode cX4_fill 137 = .ok (.iadd, 1) := by decide +kernel
theorem dX4_fill_138 : decode cX4_fill 138 = .ok (.iload 5, 2) := by decide +kernel
theorem dX4_fill_140 : decode cX4_fill 140 = .ok (.aload_n 0, 1) := by decide +kernel
theorem dX4_fill_141 : decode cX4_fill 141 = .ok (.getfield 7, 3) := by decide +kernel
theorem dX4_fill_144 : decode cX4_fill 144 = .ok (.aload_n 0, 1) := by decide +kernel
theorem dX4_fill_145 : decode cX4_fill 145 = .ok (.getfield 68, 3) := by decide +kernel
theorem dX4_fill_148 : decode cX4_fill 148 = .ok (.iaload, 1) := by decide +kernel
theorem dX4_fill_149 : decode cX4_fill 149 = .ok (.iload 5, 2) := by decide +kernel
theorem dX4_fill_151 : decode cX4_fill 151 = .ok (.lload 6, 2) := by decide +kernel
theorem dX4_fill_153 : decode cX4_fill 153 = .ok (.invokestatic 115, 3) := by decide +kernel
theorem dX4_fill_156 : decode cX4_fill 156 = .ok (.invokestatic 111, 3) := by decide +kernel
theorem dX4_fill_159 : decode cX4_fill 159 = .ok (.lastore, 1) := by decide +kernel
theorem dX4_fill_160 : decode cX4_fill 160 = .ok (.iinc 9 1, 3) := by decide +kernel
theorem dX4_fill_163 : decode cX4_fill 163 = .ok (.goto (-53), 3) := by decide +kernel
theorem dX4_fill_166 : decode cX4_fill 166 = .ok (.aload_n 0, 1) := by decide +kernel
theorem dX4_fill_167 : decode cX4_fill 167 = .ok (.getfield 16, 3) := by decide +kernel
theorem dX4_fill_170 : decode cX4_fill 170 = .ok (.aload_n 0, 1) := by decide +kernel
theorem dX4_fill_171 : decode cX4_fill 171 = .ok (.getfield 68, 3) := by decide +kernel
theorem dX4_fill_174 : decode cX4_fill 174 = .ok (.iaload, 1) := by decide +kernel
theorem dX4_fill_175 : decode cX4_fill 175 = .ok (.ireturn, 1) := by decide +kernel
set_option maxRecDepth 20000 in
theorem ggX4_pourOne_X4_goesInto : GoodIn wsX4_pourOne wsX4_goesInto := goodIn_r _ [9] (by decide +kernel) (by decide +kernel)
set_option maxRecDepth 20000 in
theorem gX4_pourOne_X4_goesInto : GoodIn wsX4_pourOne (va_wsS RX4 107 yX4_goesInto wsX4_goesInto) := goodIn_app (goodIn_of _ (by decide +kernel)) ggX4_pourOne_X4_goesInto
set_option maxRecDepth 20000 in
theorem ggX4_pourOne_X4_as : GoodIn wsX4_pourOne wsX4_as := goodIn_r _ [12, 13, 14, 15, 16, 17, 18, 19, 20, 21, 22, 23, 24, 25, 26, 27, 28, 29, 30, 31, 32, 33, 34, 35, 36, 37, 38, 39, 40, 41] (by decide +kernel) (by decide +kernel)
set_option maxRecDepth 20000 in
theorem gX4_pourOne_X4_as : GoodIn wsX4_pourOne (va_wsS RX4 111 yX4_as wsX4_as) := goodIn_app (goodIn_of _ (by decide +kernel)) ggX4_pourOne_X4_as
set_option maxRecDepth 20000 in
theorem ggX4_pourOne_X4_fits : GoodIn wsX4_pourOne wsX4_fits := goodIn_r _ [45, 4, 1, 46, 47, 48, 49, 50, 51, 52, 53, 54, 55, 56, 57, 58, 59] (by decide +kernel) (by decide +kernel)
set_option maxRecDepth 20000 in
theorem gX4_pourOne_X4_fits : GoodIn wsX4_pourOne (wsV RX4 119 RX4 yX4_fits wsX4_fits) := goodIn_app (goodIn_of _ (by decide +kernel)) ggX4_pourOne_X4_fits
theorem dX4_pourOne_0 : decode cX4_pourOne 0 = .ok (.aload_n 0, 1) := by decide +kernel
theorem dX4_pourOne_1 : decode cX4_pourOne 1 = .ok (.getfield 13, 3) := by decide +kernel
theorem dX4_pourOne_4 : decode cX4_pourOne 4 = .ok (.iload_n 2, 1) := by decide +kernel
theorem dX4_pourOne_5 : decode cX4_pourOne 5 = .ok (.iaload, 1) := by decide +kernel
theorem dX4_pourOne_6 : decode cX4_pourOne 6 = .ok (.iconst 1, 1) := by decide +kernel
theorem dX4_pourOne_7 : decode cX4_pourOne 7 = .ok (.if_icmp .ne 7, 3) := by decide +kernel
theorem dX4_pourOne_10 : decode cX4_pourOne 10 = .ok (.iconst 1, 1) := by decide +kernel
theorem dX4_pourOne_11 : decode cX4_pourOne 11 = .ok (.goto 4, 3) := by decide +kernel
theorem dX4_pourOne_14 : decode cX4_pourOne 14 = .ok (.iconst 0, 1) := by decide +kernel
theorem dX4_pourOne_15 : decode cX4_pourOne 15 = .ok (.istore 4, 2) := by decide +kernel
theorem dX4_pourOne_17 : decode cX4_pourOne 17 = .ok (.aload_n 0, 1) := by decide +kernel
theorem dX4_pourOne_18 : decode cX4_pourOne 18 = .ok (.getfield 13, 3) := by decide +kernel
theorem dX4_pourOne_21 : decode cX4_pourOne 21 = .ok (.iload_n 3, 1) := by decide +kernel
theorem dX4_pourOne_22 : decode cX4_pourOne 22 = .ok (.iaload, 1) := by decide +kernel
theorem dX4_pourOne_23 : decode cX4_pourOne 23 = .ok (.iconst 1, 1) := by decide +kernel
theorem dX4_pourOne_24 : decode cX4_pourOne 24 = .ok (.if_icmp .ne 7, 3) := by decide +kernel
theorem dX4_pourOne_27 : decode cX4_pourOne 27 = .ok (.iconst 1, 1) := by decide +kernel
theorem dX4_pourOne_28 : decode cX4_pourOne 28 = .ok (.goto 4, 3) := by decide +kernel
theorem dX4_pourOne_31 : decode cX4_pourOne 31 = .ok (.iconst 0, 1) := by decide +kernel
theorem dX4_pourOne_32 : decode cX4_pourOne 32 = .ok (.istore 5, 2) := by decide +kernel
theorem dX4_pourOne_34 : decode cX4_pourOne 34 = .ok (.iload 4, 2) := by decide +kernel
theorem dX4_pourOne_36 : decode cX4_pourOne 36 = .ok (.ifCond .ne 25, 3) := by decide +kernel
theorem dX4_pourOne_39 : decode cX4_pourOne 39 = .ok (.iload 5, 2) := by decide +kernel
theorem dX4_pourOne_41 : decode cX4_pourOne 41 = .ok (.ifCond .eq 20, 3) := by decide +kernel
theorem dX4_pourOne_44 : decode cX4_pourOne 44 = .ok (.aload_n 0, 1) := by decide +kernel
theorem dX4_pourOne_45 : decode cX4_pourOne 45 = .ok (.getfield 23, 3) := by decide +kernel
theorem dX4_pourOne_48 : decode cX4_pourOne 48 = .ok (.bipush 8, 2) := by decide +kernel
theorem dX4_pourOne_50 : decode cX4_pourOne 50 = .ok (.iload_n 2, 1) := by decide +kernel
theorem dX4_pourOne_51 : decode cX4_pourOne 51 = .ok (.imul, 1) := by decide +kernel
theorem dX4_pourOne_52 : decode cX4_pourOne 52 = .ok (.iload_n 1, 1) := by decide +kernel
theorem dX4_pourOne_53 : decode cX4_pourOne 53 = .ok (.iadd, 1) := by decide +kernel
theorem dX4_pourOne_54 : decode cX4_pourOne 54 = .ok (.iaload, 1) := by decide +kernel
theorem dX4_pourOne_55 : decode cX4_pourOne 55 = .ok (.iconst (-1), 1) := by decide +kernel
theorem dX4_pourOne_56 : decode cX4_pourOne 56 = .ok (.if_icmp .ne 5, 3) := by decide +kernel
theorem dX4_pourOne_59 : decode cX4_pourOne 59 = .ok (.iconst 4, 1) := by decide +kernel
theorem dX4_pourOne_60 : decode cX4_pourOne 60 = .ok (.ireturn, 1) := by decide +kernel
theorem dX4_pourOne_61 : decode cX4_pourOne 61 = .ok (.iload_n 1, 1) := by decide +kernel
theorem dX4_pourOne_62 : decode cX4_pourOne 62 = .ok (.aload_n 0, 1) := by decide +kernel
theorem dX4_pourOne_63 : decode cX4_pourOne 63 = .ok (.getfield 16, 3) := by decide +kernel
theorem dX4_pourOne_66 : decode cX4_pourOne 66 = .ok (.iload_n 3, 1) := by decide +kernel
theorem dX4_pourOne_67 : decode cX4_pourOne 67 = .ok (.iaload, 1) := by decide +kernel
theorem dX4_pourOne_68 : decode cX4_pourOne 68 = .ok (.if_icmp .lt 5, 3) := by decide +kernel
theorem dX4_pourOne_71 : decode cX4_pourOne 71 = .ok (.iconst 3, 1) := by decide +kernel
theorem dX4_pourOne_72 : decode cX4_pourOne 72 = .ok (.ireturn, 1) := by decide +kernel
theorem dX4_pourOne_73 : decode cX4_pourOne 73 = .ok (.iload 4, 2) := by decide +kernel
theorem dX4_pourOne_75 : decode cX4_pourOne 75 = .ok (.iload 5, 2) := by decide +kernel
theorem dX4_pourOne_77 : decode cX4_pourOne 77 = .ok (.if_icmp .eq 5, 3) := by decide +kernel
theorem dX4_pourOne_80 : decode cX4_pourOne 80 = .ok (.iconst 4, 1) := by decide +kernel
theorem dX4_pourOne_81 : decode cX4_pourOne 81 = .ok (.ireturn, 1) := by decide +kernel
theorem dX4_pourOne_82 : decode cX4_pourOne 82 = .ok (.iload 4, 2) := by decide +kernel
theorem dX4_pourOne_84 : decode cX4_pourOne 84 = .ok (.ifCond .eq 62, 3) := by decide +kernel
theorem dX4_pourOne_87 : decode cX4_pourOne 87 = .ok (.aload_n 0, 1) := by decide +kernel
theorem dX4_pourOne_88 : decode cX4_pourOne 88 = .ok (.getfield 7, 3) := by decide +kernel
theorem dX4_pourOne_91 : decode cX4_pourOne 91 = .ok (.iload_n 2, 1) := by decide +kernel
theorem dX4_pourOne_92 : decode cX4_pourOne 92 = .ok (.iaload, 1) := by decide +kernel
theorem dX4_pourOne_93 : decode cX4_pourOne 93 = .ok (.aload_n 0, 1) := by decide +kernel
theorem dX4_pourOne_94 : decode cX4_pourOne 94 = .ok (.getfield 7, 3) := by decide +kernel
theorem dX4_pourOne_97 : decode cX4_pourOne 97 = .ok (.iload_n 3, 1) := by decide +kernel
theorem dX4_pourOne_98 : decode cX4_pourOne 98 = .ok (.iaload, 1) := by decide +kernel
theorem dX4_pourOne_99 : decode cX4_pourOne 99 = .ok (.invokestatic 107, 3) := by decide +kernel
theorem dX4_pourOne_102 : decode cX4_pourOne 102 = .ok (.ifCond .ne 5, 3) := by decide +kernel
theorem dX4_pourOne_105 : decode cX4_pourOne 105 = .ok (.iconst 4, 1) := by decide +kernel
theorem dX4_pourOne_106 : decode cX4_pourOne 106 = .ok (.ireturn, 1) := by decide +kernel
theorem dX4_pourOne_107 : decode cX4_pourOne 107 = .ok (.aload_n 0, 1) := by decide +kernel
theorem dX4_pourOne_108 : decode cX4_pourOne 108 = .ok (.getfield 19, 3) := by decide +kernel
theorem dX4_pourOne_111 : decode cX4_pourOne 111 = .ok (.bipush 8, 2) := by decide +kernel
theorem dX4_pourOne_113 : decode cX4_pourOne 113 = .ok (.iload_n 3, 1) := by decide +kernel
theorem dX4_pourOne_114 : decode cX4_pourOne 114 = .ok (.imul, 1) := by decide +kernel
theorem dX4_pourOne_115 : decode cX4_pourOne 115 = .ok (.iload_n 1, 1) := by decide +kernel
theorem dX4_pourOne_116 : decode cX4_pourOne 116 = .ok (.iadd, 1) := by decide +kernel
theorem dX4_pourOne_117 : decode cX4_pourOne 117 = .ok (.aload_n 0, 1) := by decide +kernel
theorem dX4_pourOne_118 : decode cX4_pourOne 118 = .ok (.getfield 7, 3) := by decide +kernel
theorem dX4_pourOne_121 : decode cX4_pourOne 121 = .ok (.iload_n 2, 1) := by decide +kernel
theorem dX4_pourOne_122 : decode cX4_pourOne 122 = .ok (.iaload, 1) := by decide +kernel
theorem dX4_pourOne_123 : decode cX4_pourOne 123 = .ok (.aload_n 0, 1) := by decide +kernel
theorem dX4_pourOne_124 : decode cX4_pourOne 124 = .ok (.getfield 7, 3) := by decide +kernel
theorem dX4_pourOne_127 : decode cX4_pourOne 127 = .ok (.iload_n 3, 1) := by decide +kernel
theorem dX4_pourOne_128 : decode cX4_pourOne 128 = .ok (.iaload, 1) := by decide +kernel
theorem dX4_pourOne_129 : decode cX4_pourOne 129 = .ok (.aload_n 0, 1) := by decide +kernel
theorem dX4_pourOne_130 : decode cX4_pourOne 130 = .ok (.getfield 19, 3) := by decide +kernel
theorem dX4_pourOne_133 : decode cX4_pourOne 133 = .ok (.bipush 8, 2) := by decide +kernel
theorem dX4_pourOne_135 : decode cX4_pourOne 135 = .ok (.iload_n 2, 1) := by decide +kernel
theorem dX4_pourOne_136 : decode cX4_pourOne 136 = .ok (.imul, 1) := by decide +kernel
theorem dX4_pourOne_137 : decode cX4_pourOne 137 = .ok (.iload_n 1, 1) := by decide +kernel
theorem dX4_pourOne_138 : decode cX4_pourOne 138 = .ok (.iadd, 1) := by decide +kernel
theorem dX4_pourOne_139 : decode cX4_pourOne 139 = .ok (.laload, 1) := by decide +kernel
theorem dX4_pourOne_140 : decode cX4_pourOne 140 = .ok (.invokestatic 111, 3) := by decide +kernel
theorem dX4_pourOne_143 : decode cX4_pourOne 143 = .ok (.lastore, 1) := by decide +kernel
theorem dX4_pourOne_144 : decode cX4_pourOne 144 = .ok (.iconst 0, 1) := by decide +kernel
theorem dX4_pourOne_145 : decode cX4_pourOne 145 = .ok (.ireturn, 1) := by decide +kernel
theorem dX4_pourOne_146 : decode cX4_pourOne 146 = .ok (.aload_n 0, 1) := by decide +kernel
theorem dX4_pourOne_147 : decode cX4_pourOne 147 = .ok (.aload_n 0, 1) := by decide +kernel
theorem dX4_pourOne_148 : decode cX4_pourOne 148 = .ok (.getfield 23, 3) := by decide +kernel
theorem dX4_pourOne_151 : decode cX4_pourOne 151 = .ok (.bipush 8, 2) := by decide +kernel
theorem dX4_pourOne_153 : decode cX4_pourOne 153 = .ok (.iload_n 2, 1) := by decide +kernel
theorem dX4_pourOne_154 : decode cX4_pourOne 154 = .ok (.imul, 1) := by decide +kernel
theorem dX4_pourOne_155 : decode cX4_pourOne 155 = .ok (.iload_n 1, 1) := by decide +kernel
theorem dX4_pourOne_156 : decode cX4_pourOne 156 = .ok (.iadd, 1) := by decide +kernel
theorem dX4_pourOne_157 : decode cX4_pourOne 157 = .ok (.iaload, 1) := by decide +kernel
theorem dX4_pourOne_158 : decode cX4_pourOne 158 = .ok (.iload_n 3, 1) := by decide +kernel
theorem dX4_pourOne_159 : decode cX4_pourOne 159 = .ok (.invokevirtual 119, 3) := by decide +kernel
theorem dX4_pourOne_162 : decode cX4_pourOne 162 = .ok (.ifCond .ne 5, 3) := by decide +kernel
theorem dX4_pourOne_165 : decode cX4_pourOne 165 = .ok (.iconst 4, 1) := by decide +kernel
theorem dX4_pourOne_166 : decode cX4_pourOne 166 = .ok (.ireturn, 1) := by decide +kernel
theorem dX4_pourOne_167 : decode cX4_pourOne 167 = .ok (.aload_n 0, 1) := by decide +kernel
theorem dX4_pourOne_168 : decode cX4_pourOne 168 = .ok (.getfield 23, 3) := by decide +kernel
theorem dX4_pourOne_171 : decode cX4_pourOne 171 = .ok (.bipush 8, 2) := by decide +kernel
theorem dX4_pourOne_173 : decode cX4_pourOne 173 = .ok (.iload_n 3, 1) := by decide +kernel
theorem dX4_pourOne_174 : decode cX4_pourOne 174 = .ok (.imul, 1) := by decide +kernel
theorem dX4_pourOne_175 : decode cX4_pourOne 175 = .ok (.iload_n 1, 1) := by decide +kernel
theorem dX4_pourOne_176 : decode cX4_pourOne 176 = .ok (.iadd, 1) := by decide +kernel
theorem dX4_pourOne_177 : decode cX4_pourOne 177 = .ok (.aload_n 0, 1) := by decide +kernel
theorem dX4_pourOne_178 : decode cX4_pourOne 178 = .ok (.getfield 23, 3) := by decide +kernel
theorem dX4_pourOne_181 : decode cX4_pourOne 181 = .ok (.bipush 8, 2) := by decide +kernel
theorem dX4_pourOne_183 : decode cX4_pourOne 183 = .ok (.iload_n 2, 1) := by decide +kernel
theorem dX4_pourOne_184 : decode cX4_pourOne 184 = .ok (.imul, 1) := by decide +kernel
theorem dX4_pourOne_185 : decode cX4_pourOne 185 = .ok (.iload_n 1, 1) := by decide +kernel
theorem dX4_pourOne_186 : decode cX4_pourOne 186 = .ok (.iadd, 1) := by decide +kernel
theorem dX4_pourOne_187 : decode cX4_pourOne 187 = .ok (.iaload, 1) := by decide +kernel
theorem dX4_pourOne_188 : decode cX4_pourOne 188 = .ok (.iastore, 1) := by decide +kernel
theorem dX4_pourOne_189 : decode cX4_pourOne 189 = .ok (.iconst 0, 1) := by decide +kernel
theorem dX4_pourOne_190 : decode cX4_pourOne 190 = .ok (.ireturn, 1) := by decide +kernel
set_option maxRecDepth 20000 in
theorem ggX4_pour_X4_isBox : GoodIn wsX4_pour wsX4_isBox := goodIn_r _ [7, 8, 9, 6, 10] (by decide +kernel) (by decide +kernel)
set_option maxRecDepth 20000 in
theorem gX4_pour_X4_isBox : GoodIn wsX4_pour (va_wsS RX4 89 yX4_isBox wsX4_isBox) := goodIn_app (goodIn_of _ (by decide +kernel)) ggX4_pour_X4_isBox
set_option maxRecDepth 20000 in
theorem ggX4_pour_X4_fails : GoodIn wsX4_pour wsX4_fails := goodIn_r _ [14, 15, 63, 64, 65, 66, 67, 68, 69, 70, 71, 72, 73, 74, 75, 76] (by decide +kernel) (by decide +kernel)
set_option maxRecDepth 20000 in
theorem gX4_pour_X4_fails : GoodIn wsX4_pour (wsV RX4 96 RX4 yX4_fails wsX4_fails) := goodIn_app (goodIn_of _ (by decide +kernel)) ggX4_pour_X4_fails
set_option maxRecDepth 20000 in
theorem ggX4_pour_X4_pourOne : GoodIn wsX4_pour wsX4_pourOne := goodIn_r _ [19, 20, 21, 3, 22, 23, 24, 25, 6, 26, 27, 28, 29, 30, 31, 32, 33, 34, 35, 36, 37, 38, 39, 40, 41, 42, 43, 44, 45, 46, 47, 48, 49, 50, 51, 52, 53, 54, 55, 56, 57, 58, 59, 60, 61, 62, 63, 64, 65, 66, 67, 68, 69, 70, 71, 72, 73, 74, 75, 76] (by decide +kernel) (by decide +kernel)
set_option maxRecDepth 20000 in
theorem gX4_pour_X4_pourOne : GoodIn wsX4_pour (wsV RX4 125 RX4 yX4_pourOne wsX4_pourOne) := goodIn_app (goodIn_of _ (by decide +kernel)) ggX4_pour_X4_pourOne
theorem dX4_pour_0 : decode cX4_pour 0 = .ok (.iload_n 1, 1) := by decide +kernel
theorem dX4_pour_1 : decode cX4_pour 1 = .ok (.invokestatic 89, 3) := by decide +kernel
theorem dX4_pour_4 : decode cX4_pour 4 = .ok (.ifCond .eq 10, 3) := by decide +kernel
theorem dX4_pour_7 : decode cX4_pour 7 = .ok (.iload_n 2, 1) := by decide +kernel
theorem dX4_pour_8 : decode cX4_pour 8 = .ok (.invokestatic 89, 3) := by decide +kernel
theorem dX4_pour_11 : decode cX4_pour 11 = .ok (.ifCond .ne 5, 3) := by decide +kernel
theorem dX4_pour_14 : decode cX4_pour 14 = .ok (.iconst (-1), 1) := by decide +kernel
theorem dX4_pour_15 : decode cX4_pour 15 = .ok (.ireturn, 1) := by decide +kernel
theorem dX4_pour_16 : decode cX4_pour 16 = .ok (.aload_n 0, 1) := by decide +kernel
theorem dX4_pour_17 : decode cX4_pour 17 = .ok (.iconst 0, 1) := by decide +kernel
theorem dX4_pour_18 : decode cX4_pour 18 = .ok (.putfield 122, 3) := by decide +kernel
theorem dX4_pour_21 : decode cX4_pour 21 = .ok (.aload_n 0, 1) := by decide +kernel
theorem dX4_pour_22 : decode cX4_pour 22 = .ok (.getfield 26, 3) := by decide +kernel
theorem dX4_pour_25 : decode cX4_pour 25 = .ok (.iload_n 1, 1) := by decide +kernel
theorem dX4_pour_26 : decode cX4_pour 26 = .ok (.iaload, 1) := by decide +kernel
theorem dX4_pour_27 : decode cX4_pour 27 = .ok (.iconst (-1), 1) := by decide +kernel
theorem dX4_pour_28 : decode cX4_pour 28 = .ok (.if_icmp .eq 13, 3) := by decide +kernel
theorem dX4_pour_31 : decode cX4_pour 31 = .ok (.aload_n 0, 1) := by decide +kernel
theorem dX4_pour_32 : decode cX4_pour 32 = .ok (.getfield 26, 3) := by decide +kernel
theorem dX4_pour_35 : decode cX4_pour 35 = .ok (.iload_n 2, 1) := by decide +kernel
theorem dX4_pour_36 : decode cX4_pour 36 = .ok (.iaload, 1) := by decide +kernel
theorem dX4_pour_37 : decode cX4_pour 37 = .ok (.iconst (-1), 1) := by decide +kernel
theorem dX4_pour_38 : decode cX4_pour 38 = .ok (.if_icmp .ne 9, 3) := by decide +kernel
theorem dX4_pour_41 : decode cX4_pour 41 = .ok (.aload_n 0, 1) := by decide +kernel
theorem dX4_pour_42 : decode cX4_pour 42 = .ok (.iconst 1, 1) := by decide +kernel
theorem dX4_pour_43 : decode cX4_pour 43 = .ok (.invokevirtual 96, 3) := by decide +kernel
theorem dX4_pour_46 : decode cX4_pour 46 = .ok (.ireturn, 1) := by decide +kernel
theorem dX4_pour_47 : decode cX4_pour 47 = .ok (.iconst 0, 1) := by decide +kernel
theorem dX4_pour_48 : decode cX4_pour 48 = .ok (.istore_n 3, 1) := by decide +kernel
theorem dX4_pour_49 : decode cX4_pour 49 = .ok (.iload_n 3, 1) := by decide +kernel
theorem dX4_pour_50 : decode cX4_pour 50 = .ok (.aload_n 0, 1) := by decide +kernel
theorem dX4_pour_51 : decode cX4_pour 51 = .ok (.getfield 16, 3) := by decide +kernel
theorem dX4_pour_54 : decode cX4_pour 54 = .ok (.aload_n 0, 1) := by decide +kernel
theorem dX4_pour_55 : decode cX4_pour 55 = .ok (.getfield 26, 3) := by decide +kernel
theorem dX4_pour_58 : decode cX4_pour 58 = .ok (.iload_n 1, 1) := by decide +kernel
theorem dX4_pour_59 : decode cX4_pour 59 = .ok (.iaload, 1) := by decide +kernel
theorem dX4_pour_60 : decode cX4_pour 60 = .ok (.iaload, 1) := by decide +kernel
theorem dX4_pour_61 : decode cX4_pour 61 = .ok (.if_icmp .ge 50, 3) := by decide +kernel
theorem dX4_pour_64 : decode cX4_pour 64 = .ok (.aload_n 0, 1) := by decide +kernel
theorem dX4_pour_65 : decode cX4_pour 65 = .ok (.iload_n 3, 1) := by decide +kernel
theorem dX4_pour_66 : decode cX4_pour 66 = .ok (.aload_n 0, 1) := by decide +kernel
theorem dX4_pour_67 : decode cX4_pour 67 = .ok (.getfield 26, 3) := by decide +kernel
theorem dX4_pour_70 : decode cX4_pour 70 = .ok (.iload_n 1, 1) := by decide +kernel
theorem dX4_pour_71 : decode cX4_pour 71 = .ok (.iaload, 1) := by decide +kernel
theorem dX4_pour_72 : decode cX4_pour 72 = .ok (.aload_n 0, 1) := by decide +kernel
theorem dX4_pour_73 : decode cX4_pour 73 = .ok (.getfield 26, 3) := by decide +kernel
theorem dX4_pour_76 : decode cX4_pour 76 = .ok (.iload_n 2, 1) := by decide +kernel
theorem dX4_pour_77 : decode cX4_pour 77 = .ok (.iaload, 1) := by decide +kernel
theorem dX4_pour_78 : decode cX4_pour 78 = .ok (.invokevirtual 125, 3) := by decide +kernel
theorem dX4_pour_81 : decode cX4_pour 81 = .ok (.istore 4, 2) := by decide +kernel
theorem dX4_pour_83 : decode cX4_pour 83 = .ok (.iload 4, 2) := by decide +kernel
theorem dX4_pour_85 : decode cX4_pour 85 = .ok (.ifCond .eq 10, 3) := by decide +kernel
theorem dX4_pour_88 : decode cX4_pour 88 = .ok (.aload_n 0, 1) := by decide +kernel
theorem dX4_pour_89 : decode cX4_pour 89 = .ok (.iload 4, 2) := by decide +kernel
theorem dX4_pour_91 : decode cX4_pour 91 = .ok (.invokevirtual 96, 3) := by decide +kernel
theorem dX4_pour_94 : decode cX4_pour 94 = .ok (.ireturn, 1) := by decide +kernel
theorem dX4_pour_95 : decode cX4_pour 95 = .ok (.aload_n 0, 1) := by decide +kernel
theorem dX4_pour_96 : decode cX4_pour 96 = .ok (.dup, 1) := by decide +kernel
theorem dX4_pour_97 : decode cX4_pour 97 = .ok (.getfield 122, 3) := by decide +kernel
theorem dX4_pour_100 : decode cX4_pour 100 = .ok (.iconst 1, 1) := by decide +kernel
theorem dX4_pour_101 : decode cX4_pour 101 = .ok (.iadd, 1) := by decide +kernel
theorem dX4_pour_102 : decode cX4_pour 102 = .ok (.putfield 122, 3) := by decide +kernel
theorem dX4_pour_105 : decode cX4_pour 105 = .ok (.iinc 3 1, 3) := by decide +kernel
theorem dX4_pour_108 : decode cX4_pour 108 = .ok (.goto (-59), 3) := by decide +kernel
theorem dX4_pour_111 : decode cX4_pour 111 = .ok (.aload_n 0, 1) := by decide +kernel
theorem dX4_pour_112 : decode cX4_pour 112 = .ok (.getfield 122, 3) := by decide +kernel
theorem dX4_pour_115 : decode cX4_pour 115 = .ok (.ireturn, 1) := by decide +kernel
theorem dX4_moved_0 : decode cX4_moved 0 = .ok (.aload_n 0, 1) := by decide +kernel
theorem dX4_moved_1 : decode cX4_moved 1 = .ok (.getfield 122, 3) := by decide +kernel
theorem dX4_moved_4 : decode cX4_moved 4 = .ok (.ireturn, 1) := by decide +kernel
theorem dX4_goOver_0 : decode cX4_goOver 0 = .ok (.iconst 0, 1) := by decide +kernel
theorem dX4_goOver_1 : decode cX4_goOver 1 = .ok (.istore_n 2, 1) := by decide +kernel
theorem dX4_goOver_2 : decode cX4_goOver 2 = .ok (.iload_n 1, 1) := by decide +kernel
theorem dX4_goOver_3 : decode cX4_goOver 3 = .ok (.iconst (-1), 1) := by decide +kernel
theorem dX4_goOver_4 : decode cX4_goOver 4 = .ok (.if_icmp .eq 49, 3) := by decide +kernel
theorem dX4_goOver_7 : decode cX4_goOver 7 = .ok (.iload_n 2, 1) := by decide +kernel
theorem dX4_goOver_8 : decode cX4_goOver 8 = .ok (.aload_n 0, 1) := by decide +kernel
theorem dX4_goOver_9 : decode cX4_goOver 9 = .ok (.getfield 16, 3) := by decide +kernel
theorem dX4_goOver_12 : decode cX4_goOver 12 = .ok (.iload_n 1, 1) := by decide +kernel
theorem dX4_goOver_13 : decode cX4_goOver 13 = .ok (.iaload, 1) := by decide +kernel
theorem dX4_goOver_14 : decode cX4_goOver 14 = .ok (.if_icmp .ge 39, 3) := by decide +kernel
theorem dX4_goOver_17 : decode cX4_goOver 17 = .ok (.aload_n 0, 1) := by decide +kernel
theorem dX4_goOver_18 : decode cX4_goOver 18 = .ok (.dup, 1) := by decide +kernel
theorem dX4_goOver_19 : decode cX4_goOver 19 = .ok (.getfield 129, 3) := by decide +kernel
theorem dX4_goOver_22 : decode cX4_goOver 22 = .ok (.iconst 1, 1) := by decide +kernel
theorem dX4_goOver_23 : decode cX4_goOver 23 = .ok (.iadd, 1) := by decide +kernel
theorem dX4_goOver_24 : decode cX4_goOver 24 = .ok (.putfield 129, 3) := by decide +kernel
theorem dX4_goOver_27 : decode cX4_goOver 27 = .ok (.aload_n 0, 1) := by decide +kernel
theorem dX4_goOver_28 : decode cX4_goOver 28 = .ok (.dup, 1) := by decide +kernel
theorem dX4_goOver_29 : decode cX4_goOver 29 = .ok (.getfield 132, 3) := by decide +kernel
theorem dX4_goOver_32 : decode cX4_goOver 32 = .ok (.aload_n 0, 1) := by decide +kernel
theorem dX4_goOver_33 : decode cX4_goOver 33 = .ok (.getfield 19, 3) := by decide +kernel
theorem dX4_goOver_36 : decode cX4_goOver 36 = .ok (.bipush 8, 2) := by decide +kernel
theorem dX4_goOver_38 : decode cX4_goOver 38 = .ok (.iload_n 1, 1) := by decide +kernel
theorem dX4_goOver_39 : decode cX4_goOver 39 = .ok (.imul, 1) := by decide +kernel
theorem dX4_goOver_40 : decode cX4_goOver 40 = .ok (.iload_n 2, 1) := by decide +kernel
theorem dX4_goOver_41 : decode cX4_goOver 41 = .ok (.iadd, 1) := by decide +kernel
theorem dX4_goOver_42 : decode cX4_goOver 42 = .ok (.laload, 1) := by decide +kernel
theorem dX4_goOver_43 : decode cX4_goOver 43 = .ok (.ladd, 1) := by decide +kernel
theorem dX4_goOver_44 : decode cX4_goOver 44 = .ok (.putfield 132, 3) := by decide +kernel
theorem dX4_goOver_47 : decode cX4_goOver 47 = .ok (.iinc 2 1, 3) := by decide +kernel
theorem dX4_goOver_50 : decode cX4_goOver 50 = .ok (.goto (-48), 3) := by decide +kernel
theorem dX4_goOver_53 : decode cX4_goOver 53 = .ok (.return_, 1) := by decide +kernel
set_option maxRecDepth 20000 in
theorem ggX4_goOverTwo_X4_goOver : GoodIn wsX4_goOverTwo wsX4_goOver := goodIn_r _ [7, 1, 8, 9, 10, 11, 12, 13, 14, 15, 16, 17, 18, 19, 20, 21, 22, 23, 24] (by decide +kernel) (by decide +kernel)
set_option maxRecDepth 20000 in
theorem gX4_goOverTwo_X4_goOver : GoodIn wsX4_goOverTwo (wsV RX4 135 RX4 yX4_goOver wsX4_goOver) := goodIn_app (goodIn_of _ (by decide +kernel)) ggX4_goOverTwo_X4_goOver
theorem dX4_goOverTwo_0 : decode cX4_goOverTwo 0 = .ok (.iconst 0, 1) := by decide +kernel
theorem dX4_goOverTwo_1 : decode cX4_goOverTwo 1 = .ok (.istore_n 2, 1) := by decide +kernel
theorem dX4_goOverTwo_2 : decode cX4_goOverTwo 2 = .ok (.iload_n 1, 1) := by decide +kernel
theorem dX4_goOverTwo_3 : decode cX4_goOverTwo 3 = .ok (.iconst (-1), 1) := by decide +kernel
theorem dX4_goOverTwo_4 : decode cX4_goOverTwo 4 = .ok (.if_icmp .eq 34, 3) := by decide +kernel
theorem dX4_goOverTwo_7 : decode cX4_goOverTwo 7 = .ok (.iload_n 2, 1) := by decide +kernel
theorem dX4_goOverTwo_8 : decode cX4_goOverTwo 8 = .ok (.aload_n 0, 1) := by decide +kernel
theorem dX4_goOverTwo_9 : decode cX4_goOverTwo 9 = .ok (.getfield 16, 3) := by decide +kernel
theorem dX4_goOverTwo_12 : decode cX4_goOverTwo 12 = .ok (.iload_n 1, 1) := by decide +kernel
theorem dX4_goOverTwo_13 : decode cX4_goOverTwo 13 = .ok (.iaload, 1) := by decide +kernel
theorem dX4_goOverTwo_14 : decode cX4_goOverTwo 14 = .ok (.if_icmp .ge 24, 3) := by decide +kernel
theorem dX4_goOverTwo_17 : decode cX4_goOverTwo 17 = .ok (.aload_n 0, 1) := by decide +kernel
theorem dX4_goOverTwo_18 : decode cX4_goOverTwo 18 = .ok (.aload_n 0, 1) := by decide +kernel
theorem dX4_goOverTwo_19 : decode cX4_goOverTwo 19 = .ok (.getfield 23, 3) := by decide +kernel
theorem dX4_goOverTwo_22 : decode cX4_goOverTwo 22 = .ok (.bipush 8, 2) := by decide +kernel
theorem dX4_goOverTwo_24 : decode cX4_goOverTwo 24 = .ok (.iload_n 1, 1) := by decide +kernel
theorem dX4_goOverTwo_25 : decode cX4_goOverTwo 25 = .ok (.imul, 1) := by decide +kernel
theorem dX4_goOverTwo_26 : decode cX4_goOverTwo 26 = .ok (.iload_n 2, 1) := by decide +kernel
theorem dX4_goOverTwo_27 : decode cX4_goOverTwo 27 = .ok (.iadd, 1) := by decide +kernel
theorem dX4_goOverTwo_28 : decode cX4_goOverTwo 28 = .ok (.iaload, 1) := by decide +kernel
theorem dX4_goOverTwo_29 : decode cX4_goOverTwo 29 = .ok (.invokevirtual 135, 3) := by decide +kernel
theorem dX4_goOverTwo_32 : decode cX4_goOverTwo 32 = .ok (.iinc 2 1, 3) := by decide +kernel
theorem dX4_goOverTwo_35 : decode cX4_goOverTwo 35 = .ok (.goto (-33), 3) := by decide +kernel
theorem dX4_goOverTwo_38 : decode cX4_goOverTwo 38 = .ok (.return_, 1) := by decide +kernel
set_option maxRecDepth 20000 in
theorem ggX4_goOverAll_X4_goOver : GoodIn wsX4_goOverAll wsX4_goOver := goodIn_r _ [10, 4, 1, 2, 11, 16, 17, 18, 19, 20, 21, 22, 23, 24, 25, 26, 27, 28, 29] (by decide +kernel) (by decide +kernel)
set_option maxRecDepth 20000 in
theorem gX4_goOverAll_X4_goOver : GoodIn wsX4_goOverAll (wsV RX4 135 RX4 yX4_goOver wsX4_goOver) := goodIn_app (goodIn_of _ (by decide +kernel)) ggX4_goOverAll_X4_goOver
set_option maxRecDepth 20000 in
theorem ggX4_goOverAll_X4_goOverTwo : GoodIn wsX4_goOverAll wsX4_goOverTwo := goodIn_r _ [15, 4, 5, 6, 7, 8, 9, 10, 1, 2, 11, 16, 17, 18, 19, 20, 21, 22, 23, 24, 25, 26, 27, 28, 29] (by decide +kernel) (by decide +kernel)
set_option maxRecDepth 20000 in
theorem gX4_goOverAll_X4_goOverTwo : GoodIn wsX4_goOverAll (wsV RX4 139 RX4 yX4_goOverTwo wsX4_goOverTwo) := goodIn_app (goodIn_of _ (by decide +kernel)) ggX4_goOverAll_X4_goOverTwo
theorem dX4_goOverAll_0 : decode cX4_goOverAll 0 = .ok (.aload_n 0, 1) := by decide +kernel
theorem dX4_goOverAll_1 : decode cX4_goOverAll 1 = .ok (.iconst 0, 1) := by decide +kernel
theorem dX4_goOverAll_2 : decode cX4_goOverAll 2 = .ok (.putfield 129, 3) := by decide +kernel
theorem dX4_goOverAll_5 : decode cX4_goOverAll 5 = .ok (.aload_n 0, 1) := by decide +kernel
theorem dX4_goOverAll_6 : decode cX4_goOverAll 6 = .ok (.lconst 0, 1) := by decide +kernel
theorem dX4_goOverAll_7 : decode cX4_goOverAll 7 = .ok (.putfield 132, 3) := by decide +kernel
theorem dX4_goOverAll_10 : decode cX4_goOverAll 10 = .ok (.aload_n 0, 1) := by decide +kernel
theorem dX4_goOverAll_11 : decode cX4_goOverAll 11 = .ok (.getfield 13, 3) := by decide +kernel
theorem dX4_goOverAll_14 : decode cX4_goOverAll 14 = .ok (.iload_n 1, 1) := by decide +kernel
theorem dX4_goOverAll_15 : decode cX4_goOverAll 15 = .ok (.iaload, 1) := by decide +kernel
theorem dX4_goOverAll_16 : decode cX4_goOverAll 16 = .ok (.iconst 1, 1) := by decide +kernel
theorem dX4_goOverAll_17 : decode cX4_goOverAll 17 = .ok (.if_icmp .ne 11, 3) := by decide +kernel
theorem dX4_goOverAll_20 : decode cX4_goOverAll 20 = .ok (.aload_n 0, 1) := by decide +kernel
theorem dX4_goOverAll_21 : decode cX4_goOverAll 21 = .ok (.iload_n 1, 1) := by decide +kernel
theorem dX4_goOverAll_22 : decode cX4_goOverAll 22 = .ok (.invokevirtual 135, 3) := by decide +kernel
theorem dX4_goOverAll_25 : decode cX4_goOverAll 25 = .ok (.goto 54, 3) := by decide +kernel
theorem dX4_goOverAll_28 : decode cX4_goOverAll 28 = .ok (.aload_n 0, 1) := by decide +kernel
theorem dX4_goOverAll_29 : decode cX4_goOverAll 29 = .ok (.getfield 13, 3) := by decide +kernel
theorem dX4_goOverAll_32 : decode cX4_goOverAll 32 = .ok (.iload_n 1, 1) := by decide +kernel
theorem dX4_goOverAll_33 : decode cX4_goOverAll 33 = .ok (.iaload, 1) := by decide +kernel
theorem dX4_goOverAll_34 : decode cX4_goOverAll 34 = .ok (.iconst 2, 1) := by decide +kernel
theorem dX4_goOverAll_35 : decode cX4_goOverAll 35 = .ok (.if_icmp .ne 11, 3) := by decide +kernel
theorem dX4_goOverAll_38 : decode cX4_goOverAll 38 = .ok (.aload_n 0, 1) := by decide +kernel
theorem dX4_goOverAll_39 : decode cX4_goOverAll 39 = .ok (.iload_n 1, 1) := by decide +kernel
theorem dX4_goOverAll_40 : decode cX4_goOverAll 40 = .ok (.invokevirtual 139, 3) := by decide +kernel
theorem dX4_goOverAll_43 : decode cX4_goOverAll 43 = .ok (.goto 36, 3) := by decide +kernel
theorem dX4_goOverAll_46 : decode cX4_goOverAll 46 = .ok (.iconst 0, 1) := by decide +kernel
theorem dX4_goOverAll_47 : decode cX4_goOverAll 47 = .ok (.istore_n 2, 1) := by decide +kernel
theorem dX4_goOverAll_48 : decode cX4_goOverAll 48 = .ok (.iload_n 2, 1) := by decide +kernel
theorem dX4_goOverAll_49 : decode cX4_goOverAll 49 = .ok (.aload_n 0, 1) := by decide +kernel
theorem dX4_goOverAll_50 : decode cX4_goOverAll 50 = .ok (.getfield 16, 3) := by decide +kernel
theorem dX4_goOverAll_53 : decode cX4_goOverAll 53 = .ok (.iload_n 1, 1) := by decide +kernel
theorem dX4_goOverAll_54 : decode cX4_goOverAll 54 = .ok (.iaload, 1) := by decide +kernel
theorem dX4_goOverAll_55 : decode cX4_goOverAll 55 = .ok (.if_icmp .ge 24, 3) := by decide +kernel
theorem dX4_goOverAll_58 : decode cX4_goOverAll 58 = .ok (.aload_n 0, 1) := by decide +kernel
theorem dX4_goOverAll_59 : decode cX4_goOverAll 59 = .ok (.aload_n 0, 1) := by decide +kernel
theorem dX4_goOverAll_60 : decode cX4_goOverAll 60 = .ok (.getfield 23, 3) := by decide +kernel
theorem dX4_goOverAll_63 : decode cX4_goOverAll 63 = .ok (.bipush 8, 2) := by decide +kernel
theorem dX4_goOverAll_65 : decode cX4_goOverAll 65 = .ok (.iload_n 1, 1) := by decide +kernel
theorem dX4_goOverAll_66 : decode cX4_goOverAll 66 = .ok (.imul, 1) := by decide +kernel
theorem dX4_goOverAll_67 : decode cX4_goOverAll 67 = .ok (.iload_n 2, 1) := by decide +kernel
theorem dX4_goOverAll_68 : decode cX4_goOverAll 68 = .ok (.iadd, 1) := by decide +kernel
theorem dX4_goOverAll_69 : decode cX4_goOverAll 69 = .ok (.iaload, 1) := by decide +kernel
theorem dX4_goOverAll_70 : decode cX4_goOverAll 70 = .ok (.invokevirtual 139, 3) := by decide +kernel
theorem dX4_goOverAll_73 : decode cX4_goOverAll 73 = .ok (.iinc 2 1, 3) := by decide +kernel
theorem dX4_goOverAll_76 : decode cX4_goOverAll 76 = .ok (.goto (-28), 3) := by decide +kernel
theorem dX4_goOverAll_79 : decode cX4_goOverAll 79 = .ok (.return_, 1) := by decide +kernel
set_option maxRecDepth 20000 in
theorem ggX4_total_X4_isBox : GoodIn wsX4_total wsX4_isBox := goodIn_r _ [9, 10, 11, 8, 12] (by decide +kernel) (by decide +kernel)
set_option maxRecDepth 20000 in
theorem gX4_total_X4_isBox : GoodIn wsX4_total (va_wsS RX4 89 yX4_isBox wsX4_isBox) := goodIn_app (goodIn_of _ (by decide +kernel)) ggX4_total_X4_isBox
set_option maxRecDepth 20000 in
theorem ggX4_total_X4_in : GoodIn wsX4_total wsX4_in := goodIn_r _ [12] (by decide +kernel) (by decide +kernel)
set_option maxRecDepth 20000 in
theorem gX4_total_X4_in : GoodIn wsX4_total (va_wsS RX4 36 yX4_in wsX4_in) := goodIn_app (goodIn_of _ (by decide +kernel)) ggX4_total_X4_in
set_option maxRecDepth 20000 in
theorem ggX4_total_X4_goToRow : GoodIn wsX4_total wsX4_goToRow := goodIn_r _ [16, 17, 18, 19, 8, 20, 21, 1, 22, 23, 24, 25, 10, 11, 12, 26, 27, 28, 29, 51, 52, 53, 54, 55, 56, 57, 58, 59, 60, 61, 62, 63, 64] (by decide +kernel) (by decide +kernel)
set_option maxRecDepth 20000 in
theorem gX4_total_X4_goToRow : GoodIn wsX4_total (wsV RX4 82 RX4 yX4_goToRow wsX4_goToRow) := goodIn_app (goodIn_of _ (by decide +kernel)) ggX4_total_X4_goToRow
set_option maxRecDepth 20000 in
theorem ggX4_total_X4_goOverAll : GoodIn wsX4_total wsX4_goOverAll := goodIn_r _ [33, 3, 4, 24, 23, 25, 34, 35, 36, 8, 37, 38, 39, 40, 41, 42, 51, 52, 53, 54, 55, 56, 57, 58, 59, 60, 61, 62, 63, 64] (by decide +kernel) (by decide +kernel)
set_option maxRecDepth 20000 in
theorem gX4_total_X4_goOverAll : GoodIn wsX4_total (wsV RX4 142 RX4 yX4_goOverAll wsX4_goOverAll) := goodIn_app (goodIn_of _ (by decide +kernel)) ggX4_total_X4_goOverAll
set_option maxRecDepth 20000 in
theorem ggX4_total_X4_goesInto : GoodIn wsX4_total wsX4_goesInto := goodIn_r _ [45] (by decide +kernel) (by decide +kernel)
set_option maxRecDepth 20000 in
theorem gX4_total_X4_goesInto : GoodIn wsX4_total (va_wsS RX4 107 yX4_goesInto wsX4_goesInto) := goodIn_app (goodIn_of _ (by decide +kernel)) ggX4_total_X4_goesInto
set_option maxRecDepth 20000 in
theorem ggX4_total_X4_fails : GoodIn wsX4_total wsX4_fails := goodIn_r _ [49, 50, 51, 52, 53, 54, 55, 56, 57, 58, 59, 60, 61, 62, 63, 64] (by decide +kernel) (by decide +kernel)
set_option maxRecDepth 20000 in
theorem gX4_total_X4_fails : GoodIn wsX4_total (wsV RX4 96 RX4 yX4_fails wsX4_fails) := goodIn_app (goodIn_of _ (by decide +kernel)) ggX4_total_X4_fails
theorem dX4_total_0 : decode cX4_total 0 = .ok (.iload_n 1, 1) := by decide +kernel
theorem dX4_total_1 : decode cX4_total 1 = .ok (.invokestatic 89, 3) := by decide +kernel
theorem dX4_total_4 : decode cX4_total 4 = .ok (.ifCond .eq 12, 3) := by decide +kernel
theorem dX4_total_7 : decode cX4_total 7 = .ok (.iload_n 2, 1) := by decide +kernel
theorem dX4_total_8 : decode cX4_total 8 = .ok (.iconst 0, 1) := by decide +kernel
theorem dX4_total_9 : decode cX4_total 9 = .ok (.iconst 2, 1) := by decide +kernel
theorem dX4_total_10 : decode cX4_total 10 = .ok (.invokestatic 36, 3) := by decide +kernel
theorem dX4_total_13 : decode cX4_total 13 = .ok (.ifCond .ne 5, 3) := by decide +kernel
theorem dX4_total_16 : decode cX4_total 16 = .ok (.iconst (-1), 1) := by decide +kernel
theorem dX4_total_17 : decode cX4_total 17 = .ok (.ireturn, 1) := by decide +kernel
theorem dX4_total_18 : decode cX4_total 18 = .ok (.aload_n 0, 1) := by decide +kernel
theorem dX4_total_19 : decode cX4_total 19 = .ok (.iload_n 1, 1) := by decide +kernel
theorem dX4_total_20 : decode cX4_total 20 = .ok (.iload_n 2, 1) := by decide +kernel
theorem dX4_total_21 : decode cX4_total 21 = .ok (.iload_n 3, 1) := by decide +kernel
theorem dX4_total_22 : decode cX4_total 22 = .ok (.iload 4, 2) := by decide +kernel
theorem dX4_total_24 : decode cX4_total 24 = .ok (.invokevirtual 82, 3) := by decide +kernel
theorem dX4_total_27 : decode cX4_total 27 = .ok (.istore 5, 2) := by decide +kernel
theorem dX4_total_29 : decode cX4_total 29 = .ok (.iload 5, 2) := by decide +kernel
theorem dX4_total_31 : decode cX4_total 31 = .ok (.ifCond .ne 41, 3) := by decide +kernel
theorem dX4_total_34 : decode cX4_total 34 = .ok (.aload_n 0, 1) := by decide +kernel
theorem dX4_total_35 : decode cX4_total 35 = .ok (.aload_n 0, 1) := by decide +kernel
theorem dX4_total_36 : decode cX4_total 36 = .ok (.getfield 68, 3) := by decide +kernel
theorem dX4_total_39 : decode cX4_total 39 = .ok (.invokevirtual 142, 3) := by decide +kernel
theorem dX4_total_42 : decode cX4_total 42 = .ok (.aload_n 0, 1) := by decide +kernel
theorem dX4_total_43 : decode cX4_total 43 = .ok (.getfield 7, 3) := by decide +kernel
theorem dX4_total_46 : decode cX4_total 46 = .ok (.aload_n 0, 1) := by decide +kernel
theorem dX4_total_47 : decode cX4_total 47 = .ok (.getfield 68, 3) := by decide +kernel
theorem dX4_total_50 : decode cX4_total 50 = .ok (.iaload, 1) := by decide +kernel
theorem dX4_total_51 : decode cX4_total 51 = .ok (.iconst 5, 1) := by decide +kernel
theorem dX4_total_52 : decode cX4_total 52 = .ok (.invokestatic 107, 3) := by decide +kernel
theorem dX4_total_55 : decode cX4_total 55 = .ok (.ifCond .ne 14, 3) := by decide +kernel
theorem dX4_total_58 : decode cX4_total 58 = .ok (.aload_n 0, 1) := by decide +kernel
theorem dX4_total_59 : decode cX4_total 59 = .ok (.getfield 129, 3) := by decide +kernel
theorem dX4_total_62 : decode cX4_total 62 = .ok (.ifCond .le 7, 3) := by decide +kernel
theorem dX4_total_65 : decode cX4_total 65 = .ok (.iconst 4, 1) := by decide +kernel
theorem dX4_total_66 : decode cX4_total 66 = .ok (.goto 4, 3) := by decide +kernel
theorem dX4_total_69 : decode cX4_total 69 = .ok (.iconst 0, 1) := by decide +kernel
theorem dX4_total_70 : decode cX4_total 70 = .ok (.istore 5, 2) := by decide +kernel
theorem dX4_total_72 : decode cX4_total 72 = .ok (.iload 5, 2) := by decide +kernel
theorem dX4_total_74 : decode cX4_total 74 = .ok (.ifCond .eq 10, 3) := by decide +kernel
theorem dX4_total_77 : decode cX4_total 77 = .ok (.aload_n 0, 1) := by decide +kernel
theorem dX4_total_78 : decode cX4_total 78 = .ok (.iload 5, 2) := by decide +kernel
theorem dX4_total_80 : decode cX4_total 80 = .ok (.invokevirtual 96, 3) := by decide +kernel
theorem dX4_total_83 : decode cX4_total 83 = .ok (.ireturn, 1) := by decide +kernel
theorem dX4_total_84 : decode cX4_total 84 = .ok (.aload_n 0, 1) := by decide +kernel
theorem dX4_total_85 : decode cX4_total 85 = .ok (.aload_n 0, 1) := by decide +kernel
theorem dX4_total_86 : decode cX4_total 86 = .ok (.getfield 132, 3) := by decide +kernel
theorem dX4_total_89 : decode cX4_total 89 = .ok (.putfield 100, 3) := by decide +kernel
theorem dX4_total_92 : decode cX4_total 92 = .ok (.iconst 1, 1) := by decide +kernel
theorem dX4_total_93 : decode cX4_total 93 = .ok (.ireturn, 1) := by decide +kernel
set_option maxRecDepth 20000 in
theorem ggX4_count_X4_isBox : GoodIn wsX4_count wsX4_isBox := goodIn_r _ [6, 7, 8, 5, 9] (by decide +kernel) (by decide +kernel)
set_option maxRecDepth 20000 in
theorem gX4_count_X4_isBox : GoodIn wsX4_count (va_wsS RX4 89 yX4_isBox wsX4_isBox) := goodIn_app (goodIn_of _ (by decide +kernel)) ggX4_count_X4_isBox
set_option maxRecDepth 20000 in
theorem ggX4_count_X4_in : GoodIn wsX4_count wsX4_in := goodIn_r _ [9] (by decide +kernel) (by decide +kernel)
set_option maxRecDepth 20000 in
theorem gX4_count_X4_in : GoodIn wsX4_count (va_wsS RX4 36 yX4_in wsX4_in) := goodIn_app (goodIn_of _ (by decide +kernel)) ggX4_count_X4_in
set_option maxRecDepth 20000 in
theorem ggX4_count_X4_goToRow : GoodIn wsX4_count wsX4_goToRow := goodIn_r _ [13, 14, 15, 16, 5, 17, 18, 1, 19, 20, 21, 22, 7, 8, 9, 23, 24, 25, 26, 46, 47, 48, 49, 50, 51, 52, 53, 54, 55, 56, 57, 58, 59] (by decide +kernel) (by decide +kernel)
set_option maxRecDepth 20000 in
theorem gX4_count_X4_goToRow : GoodIn wsX4_count (wsV RX4 82 RX4 yX4_goToRow wsX4_goToRow) := goodIn_app (goodIn_of _ (by decide +kernel)) ggX4_count_X4_goToRow
set_option maxRecDepth 20000 in
theorem ggX4_count_X4_fails : GoodIn wsX4_count wsX4_fails := goodIn_r _ [30, 31, 46, 47, 48, 49, 50, 51, 52, 53, 54, 55, 56, 57, 58, 59] (by decide +kernel) (by decide +kernel)
set_option maxRecDepth 20000 in
theorem gX4_count_X4_fails : GoodIn wsX4_count (wsV RX4 96 RX4 yX4_fails wsX4_fails) := goodIn_app (goodIn_of _ (by decide +kernel)) ggX4_count_X4_fails
set_option maxRecDepth 20000 in
theorem ggX4_count_X4_goOverAll : GoodIn wsX4_count wsX4_goOverAll := goodIn_r _ [35, 2, 36, 21, 20, 22, 37, 38, 39, 5, 40, 41, 42, 43, 44, 45, 46, 47, 48, 49, 50, 51, 52, 53, 54, 55, 56, 57, 58, 59] (by decide +kernel) (by decide +kernel)
set_option maxRecDepth 20000 in
theorem gX4_count_X4_goOverAll : GoodIn wsX4_count (wsV RX4 142 RX4 yX4_goOverAll wsX4_goOverAll) := goodIn_app (goodIn_of _ (by decide +kernel)) ggX4_count_X4_goOverAll
theorem dX4_count_0 : decode cX4_count 0 = .ok (.iload_n 1, 1) := by decide +kernel
theorem dX4_count_1 : decode cX4_count 1 = .ok (.invokestatic 89, 3) := by decide +kernel
theorem dX4_count_4 : decode cX4_count 4 = .ok (.ifCond .eq 12, 3) := by decide +kernel
theorem dX4_count_7 : decode cX4_count 7 = .ok (.iload_n 2, 1) := by decide +kernel
theorem dX4_count_8 : decode cX4_count 8 = .ok (.iconst 0, 1) := by decide +kernel
theorem dX4_count_9 : decode cX4_count 9 = .ok (.iconst 2, 1) := by decide +kernel
theorem dX4_count_10 : decode cX4_count 10 = .ok (.invokestatic 36, 3) := by decide +kernel
theorem dX4_count_13 : decode cX4_count 13 = .ok (.ifCond .ne 5, 3) := by decide +kernel
theorem dX4_count_16 : decode cX4_count 16 = .ok (.iconst (-1), 1) := by decide +kernel
theorem dX4_count_17 : decode cX4_count 17 = .ok (.ireturn, 1) := by decide +kernel
theorem dX4_count_18 : decode cX4_count 18 = .ok (.aload_n 0, 1) := by decide +kernel
theorem dX4_count_19 : decode cX4_count 19 = .ok (.iload_n 1, 1) := by decide +kernel
theorem dX4_count_20 : decode cX4_count 20 = .ok (.iload_n 2, 1) := by decide +kernel
theorem dX4_count_21 : decode cX4_count 21 = .ok (.iload_n 3, 1) := by decide +kernel
theorem dX4_count_22 : decode cX4_count 22 = .ok (.iload 4, 2) := by decide +kernel
theorem dX4_count_24 : decode cX4_count 24 = .ok (.invokevirtual 82, 3) := by decide +kernel
theorem dX4_count_27 : decode cX4_count 27 = .ok (.istore 5, 2) := by decide +kernel
theorem dX4_count_29 : decode cX4_count 29 = .ok (.iload 5, 2) := by decide +kernel
theorem dX4_count_31 : decode cX4_count 31 = .ok (.ifCond .eq 10, 3) := by decide +kernel
theorem dX4_count_34 : decode cX4_count 34 = .ok (.aload_n 0, 1) := by decide +kernel
theorem dX4_count_35 : decode cX4_count 35 = .ok (.iload 5, 2) := by decide +kernel
theorem dX4_count_37 : decode cX4_count 37 = .ok (.invokevirtual 96, 3) := by decide +kernel
theorem dX4_count_40 : decode cX4_count 40 = .ok (.ireturn, 1) := by decide +kernel
theorem dX4_count_41 : decode cX4_count 41 = .ok (.aload_n 0, 1) := by decide +kernel
theorem dX4_count_42 : decode cX4_count 42 = .ok (.aload_n 0, 1) := by decide +kernel
theorem dX4_count_43 : decode cX4_count 43 = .ok (.getfield 68, 3) := by decide +kernel
theorem dX4_count_46 : decode cX4_count 46 = .ok (.invokevirtual 142, 3) := by decide +kernel
theorem dX4_count_49 : decode cX4_count 49 = .ok (.aload_n 0, 1) := by decide +kernel
theorem dX4_count_50 : decode cX4_count 50 = .ok (.getfield 129, 3) := by decide +kernel
theorem dX4_count_53 : decode cX4_count 53 = .ok (.ireturn, 1) := by decide +kernel
theorem dX4_seen_0 : decode cX4_seen 0 = .ok (.aload_n 0, 1) := by decide +kernel
theorem dX4_seen_1 : decode cX4_seen 1 = .ok (.getfield 100, 3) := by decide +kernel
theorem dX4_seen_4 : decode cX4_seen 4 = .ok (.lreturn, 1) := by decide +kernel
set_option maxRecDepth 20000 in
theorem ggX4_about_X4_in : GoodIn wsX4_about wsX4_in := goodIn_r _ [7] (by decide +kernel) (by decide +kernel)
set_option maxRecDepth 20000 in
theorem gX4_about_X4_in : GoodIn wsX4_about (va_wsS RX4 36 yX4_in wsX4_in) := goodIn_app (goodIn_of _ (by decide +kernel)) ggX4_about_X4_in
theorem dX4_about_0 : decode cX4_about 0 = .ok (.iload_n 1, 1) := by decide +kernel
theorem dX4_about_1 : decode cX4_about 1 = .ok (.bipush 6, 2) := by decide +kernel
theorem dX4_about_3 : decode cX4_about 3 = .ok (.if_icmp .ne 39, 3) := by decide +kernel
theorem dX4_about_6 : decode cX4_about 6 = .ok (.iconst 0, 1) := by decide +kernel
theorem dX4_about_7 : decode cX4_about 7 = .ok (.istore_n 2, 1) := by decide +kernel
theorem dX4_about_8 : decode cX4_about 8 = .ok (.iconst 0, 1) := by decide +kernel
theorem dX4_about_9 : decode cX4_about 9 = .ok (.istore_n 3, 1) := by decide +kernel
theorem dX4_about_10 : decode cX4_about 10 = .ok (.iload_n 3, 1) := by decide +kernel
theorem dX4_about_11 : decode cX4_about 11 = .ok (.bipush 10, 2) := by decide +kernel
theorem dX4_about_13 : decode cX4_about 13 = .ok (.if_icmp .ge 27, 3) := by decide +kernel
theorem dX4_about_16 : decode cX4_about 16 = .ok (.iload_n 2, 1) := by decide +kernel
theorem dX4_about_17 : decode cX4_about 17 = .ok (.aload_n 0, 1) := by decide +kernel
theorem dX4_about_18 : decode cX4_about 18 = .ok (.getfield 26, 3) := by decide +kernel
theorem dX4_about_21 : decode cX4_about 21 = .ok (.iload_n 3, 1) := by decide +kernel
theorem dX4_about_22 : decode cX4_about 22 = .ok (.iaload, 1) := by decide +kernel
theorem dX4_about_23 : decode cX4_about 23 = .ok (.iconst (-1), 1) := by decide +kernel
theorem dX4_about_24 : decode cX4_about 24 = .ok (.if_icmp .ne 7, 3) := by decide +kernel
theorem dX4_about_27 : decode cX4_about 27 = .ok (.iconst 0, 1) := by decide +kernel
theorem dX4_about_28 : decode cX4_about 28 = .ok (.goto 4, 3) := by decide +kernel
theorem dX4_about_31 : decode cX4_about 31 = .ok (.iconst 1, 1) := by decide +kernel
theorem dX4_about_32 : decode cX4_about 32 = .ok (.iadd, 1) := by decide +kernel
theorem dX4_about_33 : decode cX4_about 33 = .ok (.istore_n 2, 1) := by decide +kernel
theorem dX4_about_34 : decode cX4_about 34 = .ok (.iinc 3 1, 3) := by decide +kernel
theorem dX4_about_37 : decode cX4_about 37 = .ok (.goto (-27), 3) := by decide +kernel
theorem dX4_about_40 : decode cX4_about 40 = .ok (.iload_n 2, 1) := by decide +kernel
theorem dX4_about_41 : decode cX4_about 41 = .ok (.ireturn, 1) := by decide +kernel
theorem dX4_about_42 : decode cX4_about 42 = .ok (.iload_n 1, 1) := by decide +kernel
theorem dX4_about_43 : decode cX4_about 43 = .ok (.ifCond .ne 10, 3) := by decide +kernel
theorem dX4_about_46 : decode cX4_about 46 = .ok (.aload_n 0, 1) := by decide +kernel
theorem dX4_about_47 : decode cX4_about 47 = .ok (.getfield 32, 3) := by decide +kernel
theorem dX4_about_50 : decode cX4_about 50 = .ok (.goto 22, 3) := by decide +kernel
theorem dX4_about_53 : decode cX4_about 53 = .ok (.iload_n 1, 1) := by decide +kernel
theorem dX4_about_54 : decode cX4_about 54 = .ok (.iconst 1, 1) := by decide +kernel
theorem dX4_about_55 : decode cX4_about 55 = .ok (.iconst 5, 1) := by decide +kernel
theorem dX4_about_56 : decode cX4_about 56 = .ok (.invokestatic 36, 3) := by decide +kernel
theorem dX4_about_59 : decode cX4_about 59 = .ok (.ifCond .eq 12, 3) := by decide +kernel
theorem dX4_about_62 : decode cX4_about 62 = .ok (.aload_n 0, 1) := by decide +kernel
theorem dX4_about_63 : decode cX4_about 63 = .ok (.getfield 29, 3) := by decide +kernel
theorem dX4_about_66 : decode cX4_about 66 = .ok (.iload_n 1, 1) := by decide +kernel
theorem dX4_about_67 : decode cX4_about 67 = .ok (.iaload, 1) := by decide +kernel
theorem dX4_about_68 : decode cX4_about 68 = .ok (.goto 4, 3) := by decide +kernel
theorem dX4_about_71 : decode cX4_about 71 = .ok (.iconst (-1), 1) := by decide +kernel
theorem dX4_about_72 : decode cX4_about 72 = .ok (.ireturn, 1) := by decide +kernel
