theorem dX8_fits_65 : decode cX8_fits 65 = .ok (.iconst 0, 1) := by decide +kernel
theorem dX8_fits_66 : decode cX8_fits 66 = .ok (.istore_n 3, 1) := by decide +kernel
theorem dX8_fits_67 : decode cX8_fits 67 = .ok (.iload_n 3, 1) := by decide +kernel
theorem dX8_fits_68 : decode cX8_fits 68 = .ok (.aload_n 0, 1) := by decide +kernel
theorem dX8_fits_69 : decode cX8_fits 69 = .ok (.iload_n 1, 1) := by decide +kernel
theorem dX8_fits_70 : decode cX8_fits 70 = .ok (.invokevirtual 196, 3) := by decide +kernel
theorem dX8_fits_73 : decode cX8_fits 73 = .ok (.if_icmp .ge 40, 3) := by decide +kernel
theorem dX8_fits_76 : decode cX8_fits 76 = .ok (.iload_n 2, 1) := by decide +kernel
theorem dX8_fits_77 : decode cX8_fits 77 = .ok (.aload_n 0, 1) := by decide +kernel
theorem dX8_fits_78 : decode cX8_fits 78 = .ok (.iload_n 3, 1) := by decide +kernel
theorem dX8_fits_79 : decode cX8_fits 79 = .ok (.iload_n 1, 1) := by decide +kernel
theorem dX8_fits_80 : decode cX8_fits 80 = .ok (.bipush (-9), 2) := by decide +kernel
theorem dX8_fits_82 : decode cX8_fits 82 = .ok (.aload_n 0, 1) := by decide +kernel
theorem dX8_fits_83 : decode cX8_fits 83 = .ok (.getfield 57, 3) := by decide +kernel
theorem dX8_fits_86 : decode cX8_fits 86 = .ok (.invokevirtual 199, 3) := by decide +kernel
theorem dX8_fits_89 : decode cX8_fits 89 = .ok (.ifCond .eq 15, 3) := by decide +kernel
theorem dX8_fits_92 : decode cX8_fits 92 = .ok (.aload_n 0, 1) := by decide +kernel
theorem dX8_fits_93 : decode cX8_fits 93 = .ok (.iload_n 1, 1) := by decide +kernel
theorem dX8_fits_94 : decode cX8_fits 94 = .ok (.invokevirtual 228, 3) := by decide +kernel
theorem dX8_fits_97 : decode cX8_fits 97 = .ok (.ifCond .eq 7, 3) := by decide +kernel
theorem dX8_fits_100 : decode cX8_fits 100 = .ok (.iconst 1, 1) := by decide +kernel
theorem dX8_fits_101 : decode cX8_fits 101 = .ok (.goto 4, 3) := by decide +kernel
theorem dX8_fits_104 : decode cX8_fits 104 = .ok (.iconst 0, 1) := by decide +kernel
theorem dX8_fits_105 : decode cX8_fits 105 = .ok (.iadd, 1) := by decide +kernel
theorem dX8_fits_106 : decode cX8_fits 106 = .ok (.istore_n 2, 1) := by decide +kernel
theorem dX8_fits_107 : decode cX8_fits 107 = .ok (.iinc 3 1, 3) := by decide +kernel
theorem dX8_fits_110 : decode cX8_fits 110 = .ok (.goto (-43), 3) := by decide +kernel
theorem dX8_fits_113 : decode cX8_fits 113 = .ok (.iload_n 2, 1) := by decide +kernel
theorem dX8_fits_114 : decode cX8_fits 114 = .ok (.ireturn, 1) := by decide +kernel
set_option maxRecDepth 20000 in
theorem ggX8_rate_X8_in : GoodIn wsX8_rate wsX8_in := goodIn_r _ [15] (by decide +kernel) (by decide +kernel)
set_option maxRecDepth 20000 in
theorem gX8_rate_X8_in : GoodIn wsX8_rate (va_wsS RX8 66 yX8_in wsX8_in) := goodIn_app (goodIn_of _ (by decide +kernel)) ggX8_rate_X8_in
set_option maxRecDepth 20000 in
theorem ggX8_rate_X8_isMember : GoodIn wsX8_rate wsX8_isMember := goodIn_r _ [19, 20, 12, 13, 14, 15, 24, 25, 26, 27, 28, 29, 30, 31, 32, 33, 34, 35, 36, 37, 38, 39, 40, 41, 42, 43, 44, 45, 46, 47, 48, 49, 50, 51, 52, 53, 54, 55, 56, 57, 58] (by decide +kernel) (by decide +kernel)
set_option maxRecDepth 20000 in
theorem gX8_rate_X8_isMember : GoodIn wsX8_rate (wsV RX8 160 RX8 yX8_isMember wsX8_isMember) := goodIn_app (goodIn_of _ (by decide +kernel)) ggX8_rate_X8_isMember
set_option maxRecDepth 20000 in
theorem ggX8_rate_X8_ones : GoodIn wsX8_rate wsX8_ones := goodIn_r _ [23] (by decide +kernel) (by decide +kernel)
set_option maxRecDepth 20000 in
theorem gX8_rate_X8_ones : GoodIn wsX8_rate (va_wsS RX8 164 yX8_ones wsX8_ones) := goodIn_app (goodIn_of _ (by decide +kernel)) ggX8_rate_X8_ones
theorem dX8_rate_0 : decode cX8_rate 0 = .ok (.aload_n 0, 1) := by decide +kernel
theorem dX8_rate_1 : decode cX8_rate 1 = .ok (.iconst 0, 1) := by decide +kernel
theorem dX8_rate_2 : decode cX8_rate 2 = .ok (.putfield 63, 3) := by decide +kernel
theorem dX8_rate_5 : decode cX8_rate 5 = .ok (.iload_n 1, 1) := by decide +kernel
theorem dX8_rate_6 : decode cX8_rate 6 = .ok (.iconst 0, 1) := by decide +kernel
theorem dX8_rate_7 : decode cX8_rate 7 = .ok (.iconst 5, 1) := by decide +kernel
theorem dX8_rate_8 : decode cX8_rate 8 = .ok (.invokestatic 66, 3) := by decide +kernel
theorem dX8_rate_11 : decode cX8_rate 11 = .ok (.ifCond .eq 11, 3) := by decide +kernel
theorem dX8_rate_14 : decode cX8_rate 14 = .ok (.aload_n 0, 1) := by decide +kernel
theorem dX8_rate_15 : decode cX8_rate 15 = .ok (.iload_n 2, 1) := by decide +kernel
theorem dX8_rate_16 : decode cX8_rate 16 = .ok (.invokevirtual 160, 3) := by decide +kernel
theorem dX8_rate_19 : decode cX8_rate 19 = .ok (.ifCond .ne 6, 3) := by decide +kernel
theorem dX8_rate_22 : decode cX8_rate 22 = .ok (.ldc 231, 2) := by decide +kernel
theorem dX8_rate_24 : decode cX8_rate 24 = .ok (.ireturn, 1) := by decide +kernel
theorem dX8_rate_25 : decode cX8_rate 25 = .ok (.aload_n 0, 1) := by decide +kernel
theorem dX8_rate_26 : decode cX8_rate 26 = .ok (.getfield 22, 3) := by decide +kernel
theorem dX8_rate_29 : decode cX8_rate 29 = .ok (.iload_n 2, 1) := by decide +kernel
theorem dX8_rate_30 : decode cX8_rate 30 = .ok (.iaload, 1) := by decide +kernel
theorem dX8_rate_31 : decode cX8_rate 31 = .ok (.aload_n 0, 1) := by decide +kernel
theorem dX8_rate_32 : decode cX8_rate 32 = .ok (.getfield 19, 3) := by decide +kernel
theorem dX8_rate_35 : decode cX8_rate 35 = .ok (.iload_n 2, 1) := by decide +kernel
theorem dX8_rate_36 : decode cX8_rate 36 = .ok (.iaload, 1) := by decide +kernel
theorem dX8_rate_37 : decode cX8_rate 37 = .ok (.invokestatic 164, 3) := by decide +kernel
theorem dX8_rate_40 : decode cX8_rate 40 = .ok (.iadd, 1) := by decide +kernel
theorem dX8_rate_41 : decode cX8_rate 41 = .ok (.istore_n 3, 1) := by decide +kernel
theorem dX8_rate_42 : decode cX8_rate 42 = .ok (.aload_n 0, 1) := by decide +kernel
theorem dX8_rate_43 : decode cX8_rate 43 = .ok (.getfield 22, 3) := by decide +kernel
theorem dX8_rate_46 : decode cX8_rate 46 = .ok (.iload_n 2, 1) := by decide +kernel
theorem dX8_rate_47 : decode cX8_rate 47 = .ok (.iaload, 1) := by decide +kernel
theorem dX8_rate_48 : decode cX8_rate 48 = .ok (.aload_n 0, 1) := by decide +kernel
theorem dX8_rate_49 : decode cX8_rate 49 = .ok (.getfield 53, 3) := by decide +kernel
theorem dX8_rate_52 : decode cX8_rate 52 = .ok (.isub, 1) := by decide +kernel
theorem dX8_rate_53 : decode cX8_rate 53 = .ok (.istore 4, 2) := by decide +kernel
theorem dX8_rate_55 : decode cX8_rate 55 = .ok (.aload_n 0, 1) := by decide +kernel
theorem dX8_rate_56 : decode cX8_rate 56 = .ok (.dup, 1) := by decide +kernel
theorem dX8_rate_57 : decode cX8_rate 57 = .ok (.getfield 232, 3) := by decide +kernel
theorem dX8_rate_60 : decode cX8_rate 60 = .ok (.iload_n 1, 1) := by decide +kernel
theorem dX8_rate_61 : decode cX8_rate 61 = .ok (.ifCond .ne 7, 3) := by decide +kernel
theorem dX8_rate_64 : decode cX8_rate 64 = .ok (.lconst 1, 1) := by decide +kernel
theorem dX8_rate_65 : decode cX8_rate 65 = .ok (.goto 50, 3) := by decide +kernel
theorem dX8_rate_68 : decode cX8_rate 68 = .ok (.iload_n 1, 1) := by decide +kernel
theorem dX8_rate_69 : decode cX8_rate 69 = .ok (.iconst 1, 1) := by decide +kernel
theorem dX8_rate_70 : decode cX8_rate 70 = .ok (.if_icmp .ne 9, 3) := by decide +kernel
theorem dX8_rate_73 : decode cX8_rate 73 = .ok (.ldc2_w 236, 3) := by decide +kernel
theorem dX8_rate_76 : decode cX8_rate 76 = .ok (.goto 39, 3) := by decide +kernel
theorem dX8_rate_79 : decode cX8_rate 79 = .ok (.iload_n 1, 1) := by decide +kernel
theorem dX8_rate_80 : decode cX8_rate 80 = .ok (.iconst 2, 1) := by decide +kernel
theorem dX8_rate_81 : decode cX8_rate 81 = .ok (.if_icmp .ne 9, 3) := by decide +kernel
theorem dX8_rate_84 : decode cX8_rate 84 = .ok (.ldc2_w 238, 3) := by decide +kernel
theorem dX8_rate_87 : decode cX8_rate 87 = .ok (.goto 28, 3) := by decide +kernel
theorem dX8_rate_90 : decode cX8_rate 90 = .ok (.iload_n 1, 1) := by decide +kernel
theorem dX8_rate_91 : decode cX8_rate 91 = .ok (.iconst 3, 1) := by decide +kernel
theorem dX8_rate_92 : decode cX8_rate 92 = .ok (.if_icmp .ne 9, 3) := by decide +kernel
theorem dX8_rate_95 : decode cX8_rate 95 = .ok (.ldc2_w 240, 3) := by decide +kernel
theorem dX8_rate_98 : decode cX8_rate 98 = .ok (.goto 17, 3) := by decide +kernel
theorem dX8_rate_101 : decode cX8_rate 101 = .ok (.iload_n 1, 1) := by decide +kernel
theorem dX8_rate_102 : decode cX8_rate 102 = .ok (.iconst 4, 1) := by decide +kernel
theorem dX8_rate_103 : decode cX8_rate 103 = .ok (.if_icmp .ne 9, 3) := by decide +kernel
theorem dX8_rate_106 : decode cX8_rate 106 = .ok (.ldc2_w 242, 3) := by decide +kernel
theorem dX8_rate_109 : decode cX8_rate 109 = .ok (.goto 6, 3) := by decide +kernel
theorem dX8_rate_112 : decode cX8_rate 112 = .ok (.ldc2_w 244, 3) := by decide +kernel
theorem dX8_rate_115 : decode cX8_rate 115 = .ok (.ladd, 1) := by decide +kernel
theorem dX8_rate_116 : decode cX8_rate 116 = .ok (.putfield 232, 3) := by decide +kernel
theorem dX8_rate_119 : decode cX8_rate 119 = .ok (.iload_n 1, 1) := by decide +kernel
theorem dX8_rate_120 : decode cX8_rate 120 = .ok (.ifCond .ne 12, 3) := by decide +kernel
theorem dX8_rate_123 : decode cX8_rate 123 = .ok (.aload_n 0, 1) := by decide +kernel
theorem dX8_rate_124 : decode cX8_rate 124 = .ok (.getfield 22, 3) := by decide +kernel
theorem dX8_rate_127 : decode cX8_rate 127 = .ok (.iload_n 2, 1) := by decide +kernel
theorem dX8_rate_128 : decode cX8_rate 128 = .ok (.iaload, 1) := by decide +kernel
theorem dX8_rate_129 : decode cX8_rate 129 = .ok (.goto 59, 3) := by decide +kernel
theorem dX8_rate_132 : decode cX8_rate 132 = .ok (.iload_n 1, 1) := by decide +kernel
theorem dX8_rate_133 : decode cX8_rate 133 = .ok (.iconst 1, 1) := by decide +kernel
theorem dX8_rate_134 : decode cX8_rate 134 = .ok (.if_icmp .ne 7, 3) := by decide +kernel
theorem dX8_rate_137 : decode cX8_rate 137 = .ok (.iload_n 3, 1) := by decide +kernel
theorem dX8_rate_138 : decode cX8_rate 138 = .ok (.goto 50, 3) := by decide +kernel
theorem dX8_rate_141 : decode cX8_rate 141 = .ok (.iload_n 1, 1) := by decide +kernel
theorem dX8_rate_142 : decode cX8_rate 142 = .ok (.iconst 2, 1) := by decide +kernel
theorem dX8_rate_143 : decode cX8_rate 143 = .ok (.if_icmp .ne 8, 3) := by decide +kernel
theorem dX8_rate_146 : decode cX8_rate 146 = .ok (.iload 4, 2) := by decide +kernel
theorem dX8_rate_148 : decode cX8_rate 148 = .ok (.goto 40, 3) := by decide +kernel
theorem dX8_rate_151 : decode cX8_rate 151 = .ok (.iload_n 1, 1) := by decide +kernel
theorem dX8_rate_152 : decode cX8_rate 152 = .ok (.iconst 3, 1) := by decide +kernel
theorem dX8_rate_153 : decode cX8_rate 153 = .ok (.if_icmp .ne 9, 3) := by decide +kernel
theorem dX8_rate_156 : decode cX8_rate 156 = .ok (.iconst 2, 1) := by decide +kernel
theorem dX8_rate_157 : decode cX8_rate 157 = .ok (.iload_n 3, 1) := by decide +kernel
theorem dX8_rate_158 : decode cX8_rate 158 = .ok (.imul, 1) := by decide +kernel
theorem dX8_rate_159 : decode cX8_rate 159 = .ok (.goto 29, 3) := by decide +kernel
theorem dX8_rate_162 : decode cX8_rate 162 = .ok (.iload_n 1, 1) := by decide +kernel
theorem dX8_rate_163 : decode cX8_rate 163 = .ok (.iconst 4, 1) := by decide +kernel
theorem dX8_rate_164 : decode cX8_rate 164 = .ok (.if_icmp .ne 10, 3) := by decide +kernel
theorem dX8_rate_167 : decode cX8_rate 167 = .ok (.iload 4, 2) := by decide +kernel
theorem dX8_rate_169 : decode cX8_rate 169 = .ok (.iload_n 2, 1) := by decide +kernel
theorem dX8_rate_170 : decode cX8_rate 170 = .ok (.iadd, 1) := by decide +kernel
theorem dX8_rate_171 : decode cX8_rate 171 = .ok (.goto 17, 3) := by decide +kernel
theorem dX8_rate_174 : decode cX8_rate 174 = .ok (.aload_n 0, 1) := by decide +kernel
theorem dX8_rate_175 : decode cX8_rate 175 = .ok (.getfield 22, 3) := by decide +kernel
theorem dX8_rate_178 : decode cX8_rate 178 = .ok (.iload_n 2, 1) := by decide +kernel
theorem dX8_rate_179 : decode cX8_rate 179 = .ok (.iaload, 1) := by decide +kernel
theorem dX8_rate_180 : decode cX8_rate 180 = .ok (.aload_n 0, 1) := by decide +kernel
theorem dX8_rate_181 : decode cX8_rate 181 = .ok (.getfield 22, 3) := by decide +kernel
theorem dX8_rate_184 : decode cX8_rate 184 = .ok (.bipush 7, 2) := by decide +kernel
theorem dX8_rate_186 : decode cX8_rate 186 = .ok (.iaload, 1) := by decide +kernel
theorem dX8_rate_187 : decode cX8_rate 187 = .ok (.iadd, 1) := by decide +kernel
theorem dX8_rate_188 : decode cX8_rate 188 = .ok (.ireturn, 1) := by decide +kernel
set_option maxRecDepth 20000 in
theorem ggX8_keep_X8_in : GoodIn wsX8_keep wsX8_in := goodIn_r _ [8] (by decide +kernel) (by decide +kernel)
set_option maxRecDepth 20000 in
theorem gX8_keep_X8_in : GoodIn wsX8_keep (va_wsS RX8 66 yX8_in wsX8_in) := goodIn_app (goodIn_of _ (by decide +kernel)) ggX8_keep_X8_in
theorem dX8_keep_0 : decode cX8_keep 0 = .ok (.aload_n 0, 1) := by decide +kernel
theorem dX8_keep_1 : decode cX8_keep 1 = .ok (.iconst 0, 1) := by decide +kernel
theorem dX8_keep_2 : decode cX8_keep 2 = .ok (.putfield 63, 3) := by decide +kernel
theorem dX8_keep_5 : decode cX8_keep 5 = .ok (.iload_n 1, 1) := by decide +kernel
theorem dX8_keep_6 : decode cX8_keep 6 = .ok (.iconst 0, 1) := by decide +kernel
theorem dX8_keep_7 : decode cX8_keep 7 = .ok (.iconst 1, 1) := by decide +kernel
theorem dX8_keep_8 : decode cX8_keep 8 = .ok (.invokestatic 66, 3) := by decide +kernel
theorem dX8_keep_11 : decode cX8_keep 11 = .ok (.ifCond .ne 5, 3) := by decide +kernel
theorem dX8_keep_14 : decode cX8_keep 14 = .ok (.iconst (-1), 1) := by decide +kernel
theorem dX8_keep_15 : decode cX8_keep 15 = .ok (.ireturn, 1) := by decide +kernel
theorem dX8_keep_16 : decode cX8_keep 16 = .ok (.iconst 0, 1) := by decide +kernel
theorem dX8_keep_17 : decode cX8_keep 17 = .ok (.istore_n 2, 1) := by decide +kernel
theorem dX8_keep_18 : decode cX8_keep 18 = .ok (.iload_n 2, 1) := by decide +kernel
theorem dX8_keep_19 : decode cX8_keep 19 = .ok (.bipush 10, 2) := by decide +kernel
theorem dX8_keep_21 : decode cX8_keep 21 = .ok (.if_icmp .ge 26, 3) := by decide +kernel
theorem dX8_keep_24 : decode cX8_keep 24 = .ok (.aload_n 0, 1) := by decide +kernel
theorem dX8_keep_25 : decode cX8_keep 25 = .ok (.getfield 25, 3) := by decide +kernel
theorem dX8_keep_28 : decode cX8_keep 28 = .ok (.bipush 10, 2) := by decide +kernel
theorem dX8_keep_30 : decode cX8_keep 30 = .ok (.iload_n 1, 1) := by decide +kernel
theorem dX8_keep_31 : decode cX8_keep 31 = .ok (.imul, 1) := by decide +kernel
theorem dX8_keep_32 : decode cX8_keep 32 = .ok (.iload_n 2, 1) := by decide +kernel
theorem dX8_keep_33 : decode cX8_keep 33 = .ok (.iadd, 1) := by decide +kernel
theorem dX8_keep_34 : decode cX8_keep 34 = .ok (.aload_n 0, 1) := by decide +kernel
theorem dX8_keep_35 : decode cX8_keep 35 = .ok (.getfield 22, 3) := by decide +kernel
theorem dX8_keep_38 : decode cX8_keep 38 = .ok (.iload_n 2, 1) := by decide +kernel
theorem dX8_keep_39 : decode cX8_keep 39 = .ok (.iaload, 1) := by decide +kernel
theorem dX8_keep_40 : decode cX8_keep 40 = .ok (.iastore, 1) := by decide +kernel
theorem dX8_keep_41 : decode cX8_keep 41 = .ok (.iinc 2 1, 3) := by decide +kernel
theorem dX8_keep_44 : decode cX8_keep 44 = .ok (.goto (-26), 3) := by decide +kernel
theorem dX8_keep_47 : decode cX8_keep 47 = .ok (.aload_n 0, 1) := by decide +kernel
theorem dX8_keep_48 : decode cX8_keep 48 = .ok (.getfield 28, 3) := by decide +kernel
theorem dX8_keep_51 : decode cX8_keep 51 = .ok (.iload_n 1, 1) := by decide +kernel
theorem dX8_keep_52 : decode cX8_keep 52 = .ok (.iconst 1, 1) := by decide +kernel
theorem dX8_keep_53 : decode cX8_keep 53 = .ok (.bastore, 1) := by decide +kernel
theorem dX8_keep_54 : decode cX8_keep 54 = .ok (.aload_n 0, 1) := by decide +kernel
theorem dX8_keep_55 : decode cX8_keep 55 = .ok (.getfield 22, 3) := by decide +kernel
theorem dX8_keep_58 : decode cX8_keep 58 = .ok (.bipush 8, 2) := by decide +kernel
theorem dX8_keep_60 : decode cX8_keep 60 = .ok (.iaload, 1) := by decide +kernel
theorem dX8_keep_61 : decode cX8_keep 61 = .ok (.ireturn, 1) := by decide +kernel
set_option maxRecDepth 20000 in
theorem ggX8_back_X8_in : GoodIn wsX8_back wsX8_in := goodIn_r _ [9] (by decide +kernel) (by decide +kernel)
set_option maxRecDepth 20000 in
theorem gX8_back_X8_in : GoodIn wsX8_back (va_wsS RX8 66 yX8_in wsX8_in) := goodIn_app (goodIn_of _ (by decide +kernel)) ggX8_back_X8_in
theorem dX8_back_0 : decode cX8_back 0 = .ok (.aload_n 0, 1) := by decide +kernel
theorem dX8_back_1 : decode cX8_back 1 = .ok (.iconst 0, 1) := by decide +kernel
theorem dX8_back_2 : decode cX8_back 2 = .ok (.putfield 63, 3) := by decide +kernel
theorem dX8_back_5 : decode cX8_back 5 = .ok (.iload_n 1, 1) := by decide +kernel
theorem dX8_back_6 : decode cX8_back 6 = .ok (.iconst 0, 1) := by decide +kernel
theorem dX8_back_7 : decode cX8_back 7 = .ok (.iconst 1, 1) := by decide +kernel
theorem dX8_back_8 : decode cX8_back 8 = .ok (.invokestatic 66, 3) := by decide +kernel
theorem dX8_back_11 : decode cX8_back 11 = .ok (.ifCond .ne 5, 3) := by decide +kernel
theorem dX8_back_14 : decode cX8_back 14 = .ok (.iconst (-1), 1) := by decide +kernel
theorem dX8_back_15 : decode cX8_back 15 = .ok (.ireturn, 1) := by decide +kernel
theorem dX8_back_16 : decode cX8_back 16 = .ok (.aload_n 0, 1) := by decide +kernel
theorem dX8_back_17 : decode cX8_back 17 = .ok (.getfield 28, 3) := by decide +kernel
theorem dX8_back_20 : decode cX8_back 20 = .ok (.iload_n 1, 1) := by decide +kernel
theorem dX8_back_21 : decode cX8_back 21 = .ok (.baload, 1) := by decide +kernel
theorem dX8_back_22 : decode cX8_back 22 = .ok (.ifCond .ne 6, 3) := by decide +kernel
theorem dX8_back_25 : decode cX8_back 25 = .ok (.bipush (-2), 2) := by decide +kernel
theorem dX8_back_27 : decode cX8_back 27 = .ok (.ireturn, 1) := by decide +kernel
theorem dX8_back_28 : decode cX8_back 28 = .ok (.iconst 0, 1) := by decide +kernel
theorem dX8_back_29 : decode cX8_back 29 = .ok (.istore_n 2, 1) := by decide +kernel
theorem dX8_back_30 : decode cX8_back 30 = .ok (.iload_n 2, 1) := by decide +kernel
theorem dX8_back_31 : decode cX8_back 31 = .ok (.bipush 10, 2) := by decide +kernel
theorem dX8_back_33 : decode cX8_back 33 = .ok (.if_icmp .ge 26, 3) := by decide +kernel
theorem dX8_back_36 : decode cX8_back 36 = .ok (.aload_n 0, 1) := by decide +kernel
theorem dX8_back_37 : decode cX8_back 37 = .ok (.getfield 22, 3) := by decide +kernel
theorem dX8_back_40 : decode cX8_back 40 = .ok (.iload_n 2, 1) := by decide +kernel
theorem dX8_back_41 : decode cX8_back 41 = .ok (.aload_n 0, 1) := by decide +kernel
theorem dX8_back_42 : decode cX8_back 42 = .ok (.getfield 25, 3) := by decide +kernel
theorem dX8_back_45 : decode cX8_back 45 = .ok (.bipush 10, 2) := by decide +kernel
theorem dX8_back_47 : decode cX8_back 47 = .ok (.iload_n 1, 1) := by decide +kernel
theorem dX8_back_48 : decode cX8_back 48 = .ok (.imul, 1) := by decide +kernel
theorem dX8_back_49 : decode cX8_back 49 = .ok (.iload_n 2, 1) := by decide +kernel
theorem dX8_back_50 : decode cX8_back 50 = .ok (.iadd, 1) := by decide +kernel
theorem dX8_back_51 : decode cX8_back 51 = .ok (.iaload, 1) := by decide +kernel
theorem dX8_back_52 : decode cX8_back 52 = .ok (.iastore, 1) := by decide +kernel
theorem dX8_back_53 : decode cX8_back 53 = .ok (.iinc 2 1, 3) := by decide +kernel
theorem dX8_back_56 : decode cX8_back 56 = .ok (.goto (-26), 3) := by decide +kernel
theorem dX8_back_59 : decode cX8_back 59 = .ok (.aload_n 0, 1) := by decide +kernel
theorem dX8_back_60 : decode cX8_back 60 = .ok (.iconst 0, 1) := by decide +kernel
theorem dX8_back_61 : decode cX8_back 61 = .ok (.putfield 157, 3) := by decide +kernel
theorem dX8_back_64 : decode cX8_back 64 = .ok (.aload_n 0, 1) := by decide +kernel
theorem dX8_back_65 : decode cX8_back 65 = .ok (.getfield 22, 3) := by decide +kernel
theorem dX8_back_68 : decode cX8_back 68 = .ok (.bipush 8, 2) := by decide +kernel
theorem dX8_back_70 : decode cX8_back 70 = .ok (.iaload, 1) := by decide +kernel
theorem dX8_back_71 : decode cX8_back 71 = .ok (.ireturn, 1) := by decide +kernel
theorem dX8_count_0 : decode cX8_count 0 = .ok (.aload_n 0, 1) := by decide +kernel
theorem dX8_count_1 : decode cX8_count 1 = .ok (.iconst 0, 1) := by decide +kernel
theorem dX8_count_2 : decode cX8_count 2 = .ok (.putfield 63, 3) := by decide +kernel
theorem dX8_count_5 : decode cX8_count 5 = .ok (.iload_n 1, 1) := by decide +kernel
theorem dX8_count_6 : decode cX8_count 6 = .ok (.ifCond .ne 10, 3) := by decide +kernel
theorem dX8_count_9 : decode cX8_count 9 = .ok (.aload_n 0, 1) := by decide +kernel
theorem dX8_count_10 : decode cX8_count 10 = .ok (.getfield 145, 3) := by decide +kernel
theorem dX8_count_13 : decode cX8_count 13 = .ok (.goto 52, 3) := by decide +kernel
theorem dX8_count_16 : decode cX8_count 16 = .ok (.iload_n 1, 1) := by decide +kernel
theorem dX8_count_17 : decode cX8_count 17 = .ok (.iconst 1, 1) := by decide +kernel
theorem dX8_count_18 : decode cX8_count 18 = .ok (.if_icmp .ne 10, 3) := by decide +kernel
theorem dX8_count_21 : decode cX8_count 21 = .ok (.aload_n 0, 1) := by decide +kernel
theorem dX8_count_22 : decode cX8_count 22 = .ok (.getfield 148, 3) := by decide +kernel
theorem dX8_count_25 : decode cX8_count 25 = .ok (.goto 40, 3) := by decide +kernel
theorem dX8_count_28 : decode cX8_count 28 = .ok (.iload_n 1, 1) := by decide +kernel
theorem dX8_count_29 : decode cX8_count 29 = .ok (.iconst 2, 1) := by decide +kernel
theorem dX8_count_30 : decode cX8_count 30 = .ok (.if_icmp .ne 10, 3) := by decide +kernel
theorem dX8_count_33 : decode cX8_count 33 = .ok (.aload_n 0, 1) := by decide +kernel
theorem dX8_count_34 : decode cX8_count 34 = .ok (.getfield 154, 3) := by decide +kernel
theorem dX8_count_37 : decode cX8_count 37 = .ok (.goto 28, 3) := by decide +kernel
theorem dX8_count_40 : decode cX8_count 40 = .ok (.iload_n 1, 1) := by decide +kernel
theorem dX8_count_41 : decode cX8_count 41 = .ok (.iconst 3, 1) := by decide +kernel
theorem dX8_count_42 : decode cX8_count 42 = .ok (.if_icmp .ne 10, 3) := by decide +kernel
theorem dX8_count_45 : decode cX8_count 45 = .ok (.aload_n 0, 1) := by decide +kernel
theorem dX8_count_46 : decode cX8_count 46 = .ok (.getfield 157, 3) := by decide +kernel
theorem dX8_count_49 : decode cX8_count 49 = .ok (.goto 16, 3) := by decide +kernel
theorem dX8_count_52 : decode cX8_count 52 = .ok (.iload_n 1, 1) := by decide +kernel
theorem dX8_count_53 : decode cX8_count 53 = .ok (.iconst 4, 1) := by decide +kernel
theorem dX8_count_54 : decode cX8_count 54 = .ok (.if_icmp .ne 10, 3) := by decide +kernel
theorem dX8_count_57 : decode cX8_count 57 = .ok (.aload_n 0, 1) := by decide +kernel
theorem dX8_count_58 : decode cX8_count 58 = .ok (.getfield 70, 3) := by decide +kernel
theorem dX8_count_61 : decode cX8_count 61 = .ok (.goto 4, 3) := by decide +kernel
theorem dX8_count_64 : decode cX8_count 64 = .ok (.iconst (-1), 1) := by decide +kernel
theorem dX8_count_65 : decode cX8_count 65 = .ok (.ireturn, 1) := by decide +kernel
theorem dX8_trace_0 : decode cX8_trace 0 = .ok (.aload_n 0, 1) := by decide +kernel
theorem dX8_trace_1 : decode cX8_trace 1 = .ok (.iconst 0, 1) := by decide +kernel
theorem dX8_trace_2 : decode cX8_trace 2 = .ok (.putfield 63, 3) := by decide +kernel
theorem dX8_trace_5 : decode cX8_trace 5 = .ok (.aload_n 0, 1) := by decide +kernel
theorem dX8_trace_6 : decode cX8_trace 6 = .ok (.getfield 232, 3) := by decide +kernel
theorem dX8_trace_9 : decode cX8_trace 9 = .ok (.lreturn, 1) := by decide +kernel
