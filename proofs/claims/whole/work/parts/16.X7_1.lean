theorem dX7_keep_30 : decode cX7_keep 30 = .ok (.aaload, 1) := by decide +kernel
theorem dX7_keep_31 : decode cX7_keep 31 = .ok (.getfield 208, 3) := by decide +kernel
theorem dX7_keep_34 : decode cX7_keep 34 = .ok (.aload_n 0, 1) := by decide +kernel
theorem dX7_keep_35 : decode cX7_keep 35 = .ok (.getfield 29, 3) := by decide +kernel
theorem dX7_keep_38 : decode cX7_keep 38 = .ok (.invokevirtual 211, 3) := by decide +kernel
theorem dX7_keep_41 : decode cX7_keep 41 = .ok (.aload_n 0, 1) := by decide +kernel
theorem dX7_keep_42 : decode cX7_keep 42 = .ok (.getfield 29, 3) := by decide +kernel
theorem dX7_keep_45 : decode cX7_keep 45 = .ok (.getfield 115, 3) := by decide +kernel
theorem dX7_keep_48 : decode cX7_keep 48 = .ok (.ireturn, 1) := by decide +kernel
set_option maxRecDepth 20000 in
theorem ggX7_back_X1_become : GoodIn wsX7_back wsX1_become := goodIn_r _ [8, 9, 10, 11, 12, 13, 26, 27, 28, 29, 30] (by decide +kernel) (by decide +kernel)
set_option maxRecDepth 20000 in
theorem gX7_back_X1_become : GoodIn wsX7_back (wsV RX7 211 RX1 yX1_become wsX1_become) := goodIn_app (goodIn_of _ (by decide +kernel)) ggX7_back_X1_become
theorem dX7_back_0 : decode cX7_back 0 = .ok (.iload_n 1, 1) := by decide +kernel
theorem dX7_back_1 : decode cX7_back 1 = .ok (.ifCond .lt 12, 3) := by decide +kernel
theorem dX7_back_4 : decode cX7_back 4 = .ok (.iload_n 1, 1) := by decide +kernel
theorem dX7_back_5 : decode cX7_back 5 = .ok (.aload_n 0, 1) := by decide +kernel
theorem dX7_back_6 : decode cX7_back 6 = .ok (.getfield 49, 3) := by decide +kernel
theorem dX7_back_9 : decode cX7_back 9 = .ok (.arraylength, 1) := by decide +kernel
theorem dX7_back_10 : decode cX7_back 10 = .ok (.if_icmp .lt 5, 3) := by decide +kernel
theorem dX7_back_13 : decode cX7_back 13 = .ok (.iconst (-1), 1) := by decide +kernel
theorem dX7_back_14 : decode cX7_back 14 = .ok (.ireturn, 1) := by decide +kernel
theorem dX7_back_15 : decode cX7_back 15 = .ok (.aload_n 0, 1) := by decide +kernel
theorem dX7_back_16 : decode cX7_back 16 = .ok (.getfield 49, 3) := by decide +kernel
theorem dX7_back_19 : decode cX7_back 19 = .ok (.iload_n 1, 1) := by decide +kernel
theorem dX7_back_20 : decode cX7_back 20 = .ok (.aaload, 1) := by decide +kernel
theorem dX7_back_21 : decode cX7_back 21 = .ok (.getfield 204, 3) := by decide +kernel
theorem dX7_back_24 : decode cX7_back 24 = .ok (.ifCond .ne 6, 3) := by decide +kernel
theorem dX7_back_27 : decode cX7_back 27 = .ok (.bipush (-2), 2) := by decide +kernel
theorem dX7_back_29 : decode cX7_back 29 = .ok (.ireturn, 1) := by decide +kernel
theorem dX7_back_30 : decode cX7_back 30 = .ok (.aload_n 0, 1) := by decide +kernel
theorem dX7_back_31 : decode cX7_back 31 = .ok (.getfield 29, 3) := by decide +kernel
theorem dX7_back_34 : decode cX7_back 34 = .ok (.aload_n 0, 1) := by decide +kernel
theorem dX7_back_35 : decode cX7_back 35 = .ok (.getfield 49, 3) := by decide +kernel
theorem dX7_back_38 : decode cX7_back 38 = .ok (.iload_n 1, 1) := by decide +kernel
theorem dX7_back_39 : decode cX7_back 39 = .ok (.aaload, 1) := by decide +kernel
theorem dX7_back_40 : decode cX7_back 40 = .ok (.getfield 208, 3) := by decide +kernel
theorem dX7_back_43 : decode cX7_back 43 = .ok (.invokevirtual 211, 3) := by decide +kernel
theorem dX7_back_46 : decode cX7_back 46 = .ok (.aload_n 0, 1) := by decide +kernel
theorem dX7_back_47 : decode cX7_back 47 = .ok (.getfield 36, 3) := by decide +kernel
theorem dX7_back_50 : decode cX7_back 50 = .ok (.iconst 0, 1) := by decide +kernel
theorem dX7_back_51 : decode cX7_back 51 = .ok (.putfield 134, 3) := by decide +kernel
theorem dX7_back_54 : decode cX7_back 54 = .ok (.aload_n 0, 1) := by decide +kernel
theorem dX7_back_55 : decode cX7_back 55 = .ok (.getfield 29, 3) := by decide +kernel
theorem dX7_back_58 : decode cX7_back 58 = .ok (.getfield 115, 3) := by decide +kernel
theorem dX7_back_61 : decode cX7_back 61 = .ok (.ireturn, 1) := by decide +kernel
theorem dX7_count_0 : decode cX7_count 0 = .ok (.iload_n 1, 1) := by decide +kernel
theorem dX7_count_1 : decode cX7_count 1 = .ok (.tableswitch 75 0 4 #[35, 43, 51, 59, 67], 35) := by decide +kernel
theorem dX7_count_36 : decode cX7_count 36 = .ok (.aload_n 0, 1) := by decide +kernel
theorem dX7_count_37 : decode cX7_count 37 = .ok (.getfield 19, 3) := by decide +kernel
theorem dX7_count_40 : decode cX7_count 40 = .ok (.getfield 214, 3) := by decide +kernel
theorem dX7_count_43 : decode cX7_count 43 = .ok (.ireturn, 1) := by decide +kernel
theorem dX7_count_44 : decode cX7_count 44 = .ok (.aload_n 0, 1) := by decide +kernel
theorem dX7_count_45 : decode cX7_count 45 = .ok (.getfield 19, 3) := by decide +kernel
theorem dX7_count_48 : decode cX7_count 48 = .ok (.getfield 217, 3) := by decide +kernel
theorem dX7_count_51 : decode cX7_count 51 = .ok (.ireturn, 1) := by decide +kernel
theorem dX7_count_52 : decode cX7_count 52 = .ok (.aload_n 0, 1) := by decide +kernel
theorem dX7_count_53 : decode cX7_count 53 = .ok (.getfield 43, 3) := by decide +kernel
theorem dX7_count_56 : decode cX7_count 56 = .ok (.getfield 177, 3) := by decide +kernel
theorem dX7_count_59 : decode cX7_count 59 = .ok (.ireturn, 1) := by decide +kernel
theorem dX7_count_60 : decode cX7_count 60 = .ok (.aload_n 0, 1) := by decide +kernel
theorem dX7_count_61 : decode cX7_count 61 = .ok (.getfield 36, 3) := by decide +kernel
theorem dX7_count_64 : decode cX7_count 64 = .ok (.getfield 134, 3) := by decide +kernel
theorem dX7_count_67 : decode cX7_count 67 = .ok (.ireturn, 1) := by decide +kernel
theorem dX7_count_68 : decode cX7_count 68 = .ok (.aload_n 0, 1) := by decide +kernel
theorem dX7_count_69 : decode cX7_count 69 = .ok (.getfield 10, 3) := by decide +kernel
theorem dX7_count_72 : decode cX7_count 72 = .ok (.getfield 65, 3) := by decide +kernel
theorem dX7_count_75 : decode cX7_count 75 = .ok (.ireturn, 1) := by decide +kernel
theorem dX7_count_76 : decode cX7_count 76 = .ok (.iconst (-1), 1) := by decide +kernel
theorem dX7_count_77 : decode cX7_count 77 = .ok (.ireturn, 1) := by decide +kernel
theorem dX7_trace_0 : decode cX7_trace 0 = .ok (.aload_n 0, 1) := by decide +kernel
theorem dX7_trace_1 : decode cX7_trace 1 = .ok (.getfield 220, 3) := by decide +kernel
theorem dX7_trace_4 : decode cX7_trace 4 = .ok (.lreturn, 1) := by decide +kernel
theorem dX7_isSpeechLength_0 : decode cX7_isSpeechLength 0 = .ok (.iload_n 0, 1) := by decide +kernel
theorem dX7_isSpeechLength_1 : decode cX7_isSpeechLength 1 = .ok (.iconst 1, 1) := by decide +kernel
theorem dX7_isSpeechLength_2 : decode cX7_isSpeechLength 2 = .ok (.if_icmp .lt 13, 3) := by decide +kernel
theorem dX7_isSpeechLength_5 : decode cX7_isSpeechLength 5 = .ok (.iload_n 0, 1) := by decide +kernel
theorem dX7_isSpeechLength_6 : decode cX7_isSpeechLength 6 = .ok (.bipush 9, 2) := by decide +kernel
theorem dX7_isSpeechLength_8 : decode cX7_isSpeechLength 8 = .ok (.if_icmp .gt 7, 3) := by decide +kernel
theorem dX7_isSpeechLength_11 : decode cX7_isSpeechLength 11 = .ok (.iconst 1, 1) := by decide +kernel
theorem dX7_isSpeechLength_12 : decode cX7_isSpeechLength 12 = .ok (.goto 4, 3) := by decide +kernel
theorem dX7_isSpeechLength_15 : decode cX7_isSpeechLength 15 = .ok (.iconst 0, 1) := by decide +kernel
theorem dX7_isSpeechLength_16 : decode cX7_isSpeechLength 16 = .ok (.ireturn, 1) := by decide +kernel
theorem dX7_isPlanLength_0 : decode cX7_isPlanLength 0 = .ok (.iload_n 0, 1) := by decide +kernel
theorem dX7_isPlanLength_1 : decode cX7_isPlanLength 1 = .ok (.ifCond .lt 12, 3) := by decide +kernel
theorem dX7_isPlanLength_4 : decode cX7_isPlanLength 4 = .ok (.iload_n 0, 1) := by decide +kernel
theorem dX7_isPlanLength_5 : decode cX7_isPlanLength 5 = .ok (.iconst 5, 1) := by decide +kernel
theorem dX7_isPlanLength_6 : decode cX7_isPlanLength 6 = .ok (.if_icmp .gt 7, 3) := by decide +kernel
theorem dX7_isPlanLength_9 : decode cX7_isPlanLength 9 = .ok (.iconst 1, 1) := by decide +kernel
theorem dX7_isPlanLength_10 : decode cX7_isPlanLength 10 = .ok (.goto 4, 3) := by decide +kernel
theorem dX7_isPlanLength_13 : decode cX7_isPlanLength 13 = .ok (.iconst 0, 1) := by decide +kernel
theorem dX7_isPlanLength_14 : decode cX7_isPlanLength 14 = .ok (.ireturn, 1) := by decide +kernel
theorem dX7_beginAnew_0 : decode cX7_beginAnew 0 = .ok (.aload_n 0, 1) := by decide +kernel
theorem dX7_beginAnew_1 : decode cX7_beginAnew 1 = .ok (.getfield 29, 3) := by decide +kernel
theorem dX7_beginAnew_4 : decode cX7_beginAnew 4 = .ok (.aload_n 0, 1) := by decide +kernel
theorem dX7_beginAnew_5 : decode cX7_beginAnew 5 = .ok (.getfield 19, 3) := by decide +kernel
theorem dX7_beginAnew_8 : decode cX7_beginAnew 8 = .ok (.getfield 224, 3) := by decide +kernel
theorem dX7_beginAnew_11 : decode cX7_beginAnew 11 = .ok (.putfield 80, 3) := by decide +kernel
theorem dX7_beginAnew_14 : decode cX7_beginAnew 14 = .ok (.aload_n 0, 1) := by decide +kernel
theorem dX7_beginAnew_15 : decode cX7_beginAnew 15 = .ok (.getfield 29, 3) := by decide +kernel
theorem dX7_beginAnew_18 : decode cX7_beginAnew 18 = .ok (.bipush (-9), 2) := by decide +kernel
theorem dX7_beginAnew_20 : decode cX7_beginAnew 20 = .ok (.putfield 112, 3) := by decide +kernel
theorem dX7_beginAnew_23 : decode cX7_beginAnew 23 = .ok (.aload_n 0, 1) := by decide +kernel
theorem dX7_beginAnew_24 : decode cX7_beginAnew 24 = .ok (.getfield 29, 3) := by decide +kernel
theorem dX7_beginAnew_27 : decode cX7_beginAnew 27 = .ok (.aload_n 0, 1) := by decide +kernel
theorem dX7_beginAnew_28 : decode cX7_beginAnew 28 = .ok (.getfield 19, 3) := by decide +kernel
theorem dX7_beginAnew_31 : decode cX7_beginAnew 31 = .ok (.getfield 227, 3) := by decide +kernel
theorem dX7_beginAnew_34 : decode cX7_beginAnew 34 = .ok (.putfield 106, 3) := by decide +kernel
theorem dX7_beginAnew_37 : decode cX7_beginAnew 37 = .ok (.aload_n 0, 1) := by decide +kernel
theorem dX7_beginAnew_38 : decode cX7_beginAnew 38 = .ok (.getfield 29, 3) := by decide +kernel
theorem dX7_beginAnew_41 : decode cX7_beginAnew 41 = .ok (.iconst 0, 1) := by decide +kernel
theorem dX7_beginAnew_42 : decode cX7_beginAnew 42 = .ok (.putfield 115, 3) := by decide +kernel
theorem dX7_beginAnew_45 : decode cX7_beginAnew 45 = .ok (.aload_n 0, 1) := by decide +kernel
theorem dX7_beginAnew_46 : decode cX7_beginAnew 46 = .ok (.getfield 36, 3) := by decide +kernel
theorem dX7_beginAnew_49 : decode cX7_beginAnew 49 = .ok (.iconst 0, 1) := by decide +kernel
theorem dX7_beginAnew_50 : decode cX7_beginAnew 50 = .ok (.putfield 134, 3) := by decide +kernel
theorem dX7_beginAnew_53 : decode cX7_beginAnew 53 = .ok (.aload_n 0, 1) := by decide +kernel
theorem dX7_beginAnew_54 : decode cX7_beginAnew 54 = .ok (.getfield 43, 3) := by decide +kernel
theorem dX7_beginAnew_57 : decode cX7_beginAnew 57 = .ok (.iconst 0, 1) := by decide +kernel
theorem dX7_beginAnew_58 : decode cX7_beginAnew 58 = .ok (.putfield 177, 3) := by decide +kernel
theorem dX7_beginAnew_61 : decode cX7_beginAnew 61 = .ok (.iconst 0, 1) := by decide +kernel
theorem dX7_beginAnew_62 : decode cX7_beginAnew 62 = .ok (.istore_n 1, 1) := by decide +kernel
theorem dX7_beginAnew_63 : decode cX7_beginAnew 63 = .ok (.iload_n 1, 1) := by decide +kernel
theorem dX7_beginAnew_64 : decode cX7_beginAnew 64 = .ok (.aload_n 0, 1) := by decide +kernel
theorem dX7_beginAnew_65 : decode cX7_beginAnew 65 = .ok (.getfield 49, 3) := by decide +kernel
theorem dX7_beginAnew_68 : decode cX7_beginAnew 68 = .ok (.arraylength, 1) := by decide +kernel
theorem dX7_beginAnew_69 : decode cX7_beginAnew 69 = .ok (.if_icmp .ge 19, 3) := by decide +kernel
theorem dX7_beginAnew_72 : decode cX7_beginAnew 72 = .ok (.aload_n 0, 1) := by decide +kernel
theorem dX7_beginAnew_73 : decode cX7_beginAnew 73 = .ok (.getfield 49, 3) := by decide +kernel
theorem dX7_beginAnew_76 : decode cX7_beginAnew 76 = .ok (.iload_n 1, 1) := by decide +kernel
theorem dX7_beginAnew_77 : decode cX7_beginAnew 77 = .ok (.aaload, 1) := by decide +kernel
theorem dX7_beginAnew_78 : decode cX7_beginAnew 78 = .ok (.iconst 0, 1) := by decide +kernel
theorem dX7_beginAnew_79 : decode cX7_beginAnew 79 = .ok (.putfield 204, 3) := by decide +kernel
theorem dX7_beginAnew_82 : decode cX7_beginAnew 82 = .ok (.iinc 1 1, 3) := by decide +kernel
theorem dX7_beginAnew_85 : decode cX7_beginAnew 85 = .ok (.goto (-22), 3) := by decide +kernel
theorem dX7_beginAnew_88 : decode cX7_beginAnew 88 = .ok (.return_, 1) := by decide +kernel
set_option maxRecDepth 20000 in
theorem ggX7_passMinute_X2_afterMinute : GoodIn wsX7_passMinute wsX2_afterMinute := goodIn_r _ [7, 8, 9, 10, 11, 12, 13, 14, 15, 16, 17, 18, 19, 6, 20, 21, 22, 23, 24, 38, 39, 40, 41, 42, 43, 44, 45] (by decide +kernel) (by decide +kernel)
set_option maxRecDepth 20000 in
theorem gX7_passMinute_X2_afterMinute : GoodIn wsX7_passMinute (wsV RX7 228 RX2 yX2_afterMinute wsX2_afterMinute) := goodIn_app (goodIn_of _ (by decide +kernel)) ggX7_passMinute_X2_afterMinute
theorem dX7_passMinute_0 : decode cX7_passMinute 0 = .ok (.aload_n 0, 1) := by decide +kernel
theorem dX7_passMinute_1 : decode cX7_passMinute 1 = .ok (.getfield 29, 3) := by decide +kernel
theorem dX7_passMinute_4 : decode cX7_passMinute 4 = .ok (.aload_n 0, 1) := by decide +kernel
theorem dX7_passMinute_5 : decode cX7_passMinute 5 = .ok (.getfield 19, 3) := by decide +kernel
theorem dX7_passMinute_8 : decode cX7_passMinute 8 = .ok (.aload_n 0, 1) := by decide +kernel
theorem dX7_passMinute_9 : decode cX7_passMinute 9 = .ok (.getfield 29, 3) := by decide +kernel
theorem dX7_passMinute_12 : decode cX7_passMinute 12 = .ok (.getfield 80, 3) := by decide +kernel
theorem dX7_passMinute_15 : decode cX7_passMinute 15 = .ok (.aload_n 0, 1) := by decide +kernel
theorem dX7_passMinute_16 : decode cX7_passMinute 16 = .ok (.getfield 29, 3) := by decide +kernel
theorem dX7_passMinute_19 : decode cX7_passMinute 19 = .ok (.getfield 112, 3) := by decide +kernel
theorem dX7_passMinute_22 : decode cX7_passMinute 22 = .ok (.aload_n 0, 1) := by decide +kernel
theorem dX7_passMinute_23 : decode cX7_passMinute 23 = .ok (.getfield 29, 3) := by decide +kernel
theorem dX7_passMinute_26 : decode cX7_passMinute 26 = .ok (.getfield 106, 3) := by decide +kernel
theorem dX7_passMinute_29 : decode cX7_passMinute 29 = .ok (.invokevirtual 228, 3) := by decide +kernel
theorem dX7_passMinute_32 : decode cX7_passMinute 32 = .ok (.putfield 80, 3) := by decide +kernel
theorem dX7_passMinute_35 : decode cX7_passMinute 35 = .ok (.aload_n 0, 1) := by decide +kernel
theorem dX7_passMinute_36 : decode cX7_passMinute 36 = .ok (.getfield 29, 3) := by decide +kernel
theorem dX7_passMinute_39 : decode cX7_passMinute 39 = .ok (.dup, 1) := by decide +kernel
theorem dX7_passMinute_40 : decode cX7_passMinute 40 = .ok (.getfield 115, 3) := by decide +kernel
theorem dX7_passMinute_43 : decode cX7_passMinute 43 = .ok (.iconst 1, 1) := by decide +kernel
theorem dX7_passMinute_44 : decode cX7_passMinute 44 = .ok (.iadd, 1) := by decide +kernel
theorem dX7_passMinute_45 : decode cX7_passMinute 45 = .ok (.putfield 115, 3) := by decide +kernel
theorem dX7_passMinute_48 : decode cX7_passMinute 48 = .ok (.return_, 1) := by decide +kernel
theorem dX7_drawsCough_0 : decode cX7_drawsCough 0 = .ok (.aload_n 0, 1) := by decide +kernel
theorem dX7_drawsCough_1 : decode cX7_drawsCough 1 = .ok (.getfield 29, 3) := by decide +kernel
theorem dX7_drawsCough_4 : decode cX7_drawsCough 4 = .ok (.aload_n 0, 1) := by decide +kernel
theorem dX7_drawsCough_5 : decode cX7_drawsCough 5 = .ok (.getfield 29, 3) := by decide +kernel
theorem dX7_drawsCough_8 : decode cX7_drawsCough 8 = .ok (.getfield 137, 3) := by decide +kernel
theorem dX7_drawsCough_11 : decode cX7_drawsCough 11 = .ok (.ldc 232, 2) := by decide +kernel
theorem dX7_drawsCough_13 : decode cX7_drawsCough 13 = .ok (.imul, 1) := by decide +kernel
theorem dX7_drawsCough_14 : decode cX7_drawsCough 14 = .ok (.sipush 12345, 3) := by decide +kernel
theorem dX7_drawsCough_17 : decode cX7_drawsCough 17 = .ok (.iadd, 1) := by decide +kernel
theorem dX7_drawsCough_18 : decode cX7_drawsCough 18 = .ok (.putfield 137, 3) := by decide +kernel
theorem dX7_drawsCough_21 : decode cX7_drawsCough 21 = .ok (.aload_n 0, 1) := by decide +kernel
theorem dX7_drawsCough_22 : decode cX7_drawsCough 22 = .ok (.getfield 29, 3) := by decide +kernel
theorem dX7_drawsCough_25 : decode cX7_drawsCough 25 = .ok (.getfield 137, 3) := by decide +kernel
theorem dX7_drawsCough_28 : decode cX7_drawsCough 28 = .ok (.bipush 16, 2) := by decide +kernel
theorem dX7_drawsCough_30 : decode cX7_drawsCough 30 = .ok (.iushr, 1) := by decide +kernel
theorem dX7_drawsCough_31 : decode cX7_drawsCough 31 = .ok (.bipush 10, 2) := by decide +kernel
theorem dX7_drawsCough_33 : decode cX7_drawsCough 33 = .ok (.irem, 1) := by decide +kernel
theorem dX7_drawsCough_34 : decode cX7_drawsCough 34 = .ok (.aload_n 0, 1) := by decide +kernel
theorem dX7_drawsCough_35 : decode cX7_drawsCough 35 = .ok (.getfield 19, 3) := by decide +kernel
theorem dX7_drawsCough_38 : decode cX7_drawsCough 38 = .ok (.getfield 109, 3) := by decide +kernel
theorem dX7_drawsCough_41 : decode cX7_drawsCough 41 = .ok (.if_icmp .ge 7, 3) := by decide +kernel
theorem dX7_drawsCough_44 : decode cX7_drawsCough 44 = .ok (.iconst 1, 1) := by decide +kernel
theorem dX7_drawsCough_45 : decode cX7_drawsCough 45 = .ok (.goto 4, 3) := by decide +kernel
theorem dX7_drawsCough_48 : decode cX7_drawsCough 48 = .ok (.iconst 0, 1) := by decide +kernel
theorem dX7_drawsCough_49 : decode cX7_drawsCough 49 = .ok (.ireturn, 1) := by decide +kernel
set_option maxRecDepth 20000 in
theorem ggX7_memberRate_X2_warmthOf : GoodIn wsX7_memberRate wsX2_warmthOf := goodIn_r _ [6] (by decide +kernel) (by decide +kernel)
set_option maxRecDepth 20000 in
theorem gX7_memberRate_X2_warmthOf : GoodIn wsX7_memberRate (va_wsS RX7 83 yX2_warmthOf wsX2_warmthOf) := goodIn_app (goodIn_of _ (by decide +kernel)) ggX7_memberRate_X2_warmthOf
theorem dX7_memberRate_0 : decode cX7_memberRate 0 = .ok (.aload_n 0, 1) := by decide +kernel
theorem dX7_memberRate_1 : decode cX7_memberRate 1 = .ok (.dup, 1) := by decide +kernel
theorem dX7_memberRate_2 : decode cX7_memberRate 2 = .ok (.getfield 220, 3) := by decide +kernel
theorem dX7_memberRate_5 : decode cX7_memberRate 5 = .ok (.lconst 1, 1) := by decide +kernel
theorem dX7_memberRate_6 : decode cX7_memberRate 6 = .ok (.ladd, 1) := by decide +kernel
theorem dX7_memberRate_7 : decode cX7_memberRate 7 = .ok (.putfield 220, 3) := by decide +kernel
theorem dX7_memberRate_10 : decode cX7_memberRate 10 = .ok (.iload_n 1, 1) := by decide +kernel
theorem dX7_memberRate_11 : decode cX7_memberRate 11 = .ok (.aload_n 0, 1) := by decide +kernel
theorem dX7_memberRate_12 : decode cX7_memberRate 12 = .ok (.getfield 29, 3) := by decide +kernel
theorem dX7_memberRate_15 : decode cX7_memberRate 15 = .ok (.getfield 80, 3) := by decide +kernel
theorem dX7_memberRate_18 : decode cX7_memberRate 18 = .ok (.invokestatic 83, 3) := by decide +kernel
theorem dX7_memberRate_21 : decode cX7_memberRate 21 = .ok (.ireturn, 1) := by decide +kernel
set_option maxRecDepth 20000 in
theorem ggX7_oratorRate_X7_memberRate : GoodIn wsX7_oratorRate wsX7_memberRate := goodIn_r _ [8, 1, 9, 10, 11, 12, 13, 26, 27, 28, 29, 30, 31, 32, 33, 34, 35, 36, 37, 38] (by decide +kernel) (by decide +kernel)
set_option maxRecDepth 20000 in
theorem gX7_oratorRate_X7_memberRate : GoodIn wsX7_oratorRate (wsV RX7 186 RX7 yX7_memberRate wsX7_memberRate) := goodIn_app (goodIn_of _ (by decide +kernel)) ggX7_oratorRate_X7_memberRate
set_option maxRecDepth 20000 in
theorem ggX7_oratorRate_X2_secondersOf : GoodIn wsX7_oratorRate wsX2_secondersOf := goodIn_r _ [17, 18, 39, 40, 41, 42, 43, 44, 45, 46] (by decide +kernel) (by decide +kernel)
set_option maxRecDepth 20000 in
theorem gX7_oratorRate_X2_secondersOf : GoodIn wsX7_oratorRate (wsV RX7 95 RX2 yX2_secondersOf wsX2_secondersOf) := goodIn_app (goodIn_of _ (by decide +kernel)) ggX7_oratorRate_X2_secondersOf
set_option maxRecDepth 20000 in
theorem ggX7_oratorRate_J6_bitCount_0f7a4 : GoodIn wsX7_oratorRate wsJ6_bitCount_0f7a4 := goodIn_r _ [22, 23, 24, 25] (by decide +kernel) (by decide +kernel)
set_option maxRecDepth 20000 in
theorem gX7_oratorRate_J6_bitCount_0f7a4 : GoodIn wsX7_oratorRate (va_wsS RX7 98 yJ6_bitCount_0f7a4 wsJ6_bitCount_0f7a4) := goodIn_app (goodIn_of _ (by decide +kernel)) ggX7_oratorRate_J6_bitCount_0f7a4
theorem dX7_oratorRate_0 : decode cX7_oratorRate 0 = .ok (.aload_n 0, 1) := by decide +kernel
theorem dX7_oratorRate_1 : decode cX7_oratorRate 1 = .ok (.dup, 1) := by decide +kernel
theorem dX7_oratorRate_2 : decode cX7_oratorRate 2 = .ok (.getfield 220, 3) := by decide +kernel
theorem dX7_oratorRate_5 : decode cX7_oratorRate 5 = .ok (.ldc2_w 233, 3) := by decide +kernel
theorem dX7_oratorRate_8 : decode cX7_oratorRate 8 = .ok (.ladd, 1) := by decide +kernel
theorem dX7_oratorRate_9 : decode cX7_oratorRate 9 = .ok (.putfield 220, 3) := by decide +kernel
theorem dX7_oratorRate_12 : decode cX7_oratorRate 12 = .ok (.aload_n 0, 1) := by decide +kernel
theorem dX7_oratorRate_13 : decode cX7_oratorRate 13 = .ok (.iload_n 1, 1) := by decide +kernel
theorem dX7_oratorRate_14 : decode cX7_oratorRate 14 = .ok (.invokevirtual 186, 3) := by decide +kernel
theorem dX7_oratorRate_17 : decode cX7_oratorRate 17 = .ok (.aload_n 0, 1) := by decide +kernel
theorem dX7_oratorRate_18 : decode cX7_oratorRate 18 = .ok (.getfield 19, 3) := by decide +kernel
theorem dX7_oratorRate_21 : decode cX7_oratorRate 21 = .ok (.iload_n 1, 1) := by decide +kernel
theorem dX7_oratorRate_22 : decode cX7_oratorRate 22 = .ok (.invokevirtual 95, 3) := by decide +kernel
theorem dX7_oratorRate_25 : decode cX7_oratorRate 25 = .ok (.invokestatic 98, 3) := by decide +kernel
theorem dX7_oratorRate_28 : decode cX7_oratorRate 28 = .ok (.iadd, 1) := by decide +kernel
theorem dX7_oratorRate_29 : decode cX7_oratorRate 29 = .ok (.ireturn, 1) := by decide +kernel
set_option maxRecDepth 20000 in
theorem ggX7_deafOneRate_X7_memberRate : GoodIn wsX7_deafOneRate wsX7_memberRate := goodIn_r _ [8, 1, 9, 10, 11, 12, 13, 14, 15, 16, 17, 18, 19, 20, 21, 30, 31, 32, 33, 34] (by decide +kernel) (by decide +kernel)
set_option maxRecDepth 20000 in
theorem gX7_deafOneRate_X7_memberRate : GoodIn wsX7_deafOneRate (wsV RX7 186 RX7 yX7_memberRate wsX7_memberRate) := goodIn_app (goodIn_of _ (by decide +kernel)) ggX7_deafOneRate_X7_memberRate
theorem dX7_deafOneRate_0 : decode cX7_deafOneRate 0 = .ok (.aload_n 0, 1) := by decide +kernel
theorem dX7_deafOneRate_1 : decode cX7_deafOneRate 1 = .ok (.dup, 1) := by decide +kernel
theorem dX7_deafOneRate_2 : decode cX7_deafOneRate 2 = .ok (.getfield 220, 3) := by decide +kernel
theorem dX7_deafOneRate_5 : decode cX7_deafOneRate 5 = .ok (.ldc2_w 235, 3) := by decide +kernel
theorem dX7_deafOneRate_8 : decode cX7_deafOneRate 8 = .ok (.ladd, 1) := by decide +kernel
theorem dX7_deafOneRate_9 : decode cX7_deafOneRate 9 = .ok (.putfield 220, 3) := by decide +kernel
theorem dX7_deafOneRate_12 : decode cX7_deafOneRate 12 = .ok (.aload_n 0, 1) := by decide +kernel
theorem dX7_deafOneRate_13 : decode cX7_deafOneRate 13 = .ok (.iload_n 1, 1) := by decide +kernel
theorem dX7_deafOneRate_14 : decode cX7_deafOneRate 14 = .ok (.invokevirtual 186, 3) := by decide +kernel
theorem dX7_deafOneRate_17 : decode cX7_deafOneRate 17 = .ok (.aload_n 0, 1) := by decide +kernel
theorem dX7_deafOneRate_18 : decode cX7_deafOneRate 18 = .ok (.getfield 19, 3) := by decide +kernel
theorem dX7_deafOneRate_21 : decode cX7_deafOneRate 21 = .ok (.getfield 103, 3) := by decide +kernel
theorem dX7_deafOneRate_24 : decode cX7_deafOneRate 24 = .ok (.isub, 1) := by decide +kernel
theorem dX7_deafOneRate_25 : decode cX7_deafOneRate 25 = .ok (.ireturn, 1) := by decide +kernel
set_option maxRecDepth 20000 in
theorem ggX7_stammererRate_X7_oratorRate : GoodIn wsX7_stammererRate wsX7_oratorRate := goodIn_r _ [7, 1, 8, 9, 10, 11, 12, 6, 13, 14, 15, 16, 17, 18, 19, 20, 21, 22, 23, 24, 25, 26, 27, 28, 29, 30, 31, 32, 33, 34, 35, 36, 37, 38, 39, 40, 41, 42, 43, 44, 45, 46, 47, 48, 49, 50, 51] (by decide +kernel) (by decide +kernel)
set_option maxRecDepth 20000 in
theorem gX7_stammererRate_X7_oratorRate : GoodIn wsX7_stammererRate (wsV RX7 189 RX7 yX7_oratorRate wsX7_oratorRate) := goodIn_app (goodIn_of _ (by decide +kernel)) ggX7_stammererRate_X7_oratorRate
theorem dX7_stammererRate_0 : decode cX7_stammererRate 0 = .ok (.aload_n 0, 1) := by decide +kernel
theorem dX7_stammererRate_1 : decode cX7_stammererRate 1 = .ok (.dup, 1) := by decide +kernel
theorem dX7_stammererRate_2 : decode cX7_stammererRate 2 = .ok (.getfield 220, 3) := by decide +kernel
theorem dX7_stammererRate_5 : decode cX7_stammererRate 5 = .ok (.ldc2_w 237, 3) := by decide +kernel
theorem dX7_stammererRate_8 : decode cX7_stammererRate 8 = .ok (.ladd, 1) := by decide +kernel
theorem dX7_stammererRate_9 : decode cX7_stammererRate 9 = .ok (.putfield 220, 3) := by decide +kernel
theorem dX7_stammererRate_12 : decode cX7_stammererRate 12 = .ok (.iconst 2, 1) := by decide +kernel
theorem dX7_stammererRate_13 : decode cX7_stammererRate 13 = .ok (.aload_n 0, 1) := by decide +kernel
theorem dX7_stammererRate_14 : decode cX7_stammererRate 14 = .ok (.iload_n 1, 1) := by decide +kernel
theorem dX7_stammererRate_15 : decode cX7_stammererRate 15 = .ok (.invokevirtual 189, 3) := by decide +kernel
theorem dX7_stammererRate_18 : decode cX7_stammererRate 18 = .ok (.imul, 1) := by decide +kernel
theorem dX7_stammererRate_19 : decode cX7_stammererRate 19 = .ok (.ireturn, 1) := by decide +kernel
set_option maxRecDepth 20000 in
theorem ggX7_chairRate_X7_deafOneRate : GoodIn wsX7_chairRate wsX7_deafOneRate := goodIn_r _ [7, 1, 8, 9, 10, 11, 12, 6, 13, 14, 15, 16, 17, 18, 19, 20, 21, 22, 23, 24, 25, 26, 27, 28, 29, 30, 31, 32, 33, 34, 35, 36, 37, 38, 39] (by decide +kernel) (by decide +kernel)
set_option maxRecDepth 20000 in
theorem gX7_chairRate_X7_deafOneRate : GoodIn wsX7_chairRate (wsV RX7 192 RX7 yX7_deafOneRate wsX7_deafOneRate) := goodIn_app (goodIn_of _ (by decide +kernel)) ggX7_chairRate_X7_deafOneRate
theorem dX7_chairRate_0 : decode cX7_chairRate 0 = .ok (.aload_n 0, 1) := by decide +kernel
theorem dX7_chairRate_1 : decode cX7_chairRate 1 = .ok (.dup, 1) := by decide +kernel
theorem dX7_chairRate_2 : decode cX7_chairRate 2 = .ok (.getfield 220, 3) := by decide +kernel
theorem dX7_chairRate_5 : decode cX7_chairRate 5 = .ok (.ldc2_w 239, 3) := by decide +kernel
theorem dX7_chairRate_8 : decode cX7_chairRate 8 = .ok (.ladd, 1) := by decide +kernel
theorem dX7_chairRate_9 : decode cX7_chairRate 9 = .ok (.putfield 220, 3) := by decide +kernel
theorem dX7_chairRate_12 : decode cX7_chairRate 12 = .ok (.aload_n 0, 1) := by decide +kernel
theorem dX7_chairRate_13 : decode cX7_chairRate 13 = .ok (.iload_n 1, 1) := by decide +kernel
theorem dX7_chairRate_14 : decode cX7_chairRate 14 = .ok (.invokevirtual 192, 3) := by decide +kernel
theorem dX7_chairRate_17 : decode cX7_chairRate 17 = .ok (.iload_n 1, 1) := by decide +kernel
theorem dX7_chairRate_18 : decode cX7_chairRate 18 = .ok (.iadd, 1) := by decide +kernel
theorem dX7_chairRate_19 : decode cX7_chairRate 19 = .ok (.ireturn, 1) := by decide +kernel
set_option maxRecDepth 20000 in
theorem ggX7_sleeperRate_X7_memberRate : GoodIn wsX7_sleeperRate wsX7_memberRate := goodIn_r _ [8, 1, 3, 9, 10, 11, 12, 13, 14, 15, 16, 17, 18, 19, 20, 21, 22, 23, 24, 25] (by decide +kernel) (by decide +kernel)
set_option maxRecDepth 20000 in
theorem gX7_sleeperRate_X7_memberRate : GoodIn wsX7_sleeperRate (wsV RX7 186 RX7 yX7_memberRate wsX7_memberRate) := goodIn_app (goodIn_of _ (by decide +kernel)) ggX7_sleeperRate_X7_memberRate
theorem dX7_sleeperRate_0 : decode cX7_sleeperRate 0 = .ok (.aload_n 0, 1) := by decide +kernel
theorem dX7_sleeperRate_1 : decode cX7_sleeperRate 1 = .ok (.dup, 1) := by decide +kernel
theorem dX7_sleeperRate_2 : decode cX7_sleeperRate 2 = .ok (.getfield 220, 3) := by decide +kernel
theorem dX7_sleeperRate_5 : decode cX7_sleeperRate 5 = .ok (.ldc2_w 241, 3) := by decide +kernel
theorem dX7_sleeperRate_8 : decode cX7_sleeperRate 8 = .ok (.ladd, 1) := by decide +kernel
theorem dX7_sleeperRate_9 : decode cX7_sleeperRate 9 = .ok (.putfield 220, 3) := by decide +kernel
theorem dX7_sleeperRate_12 : decode cX7_sleeperRate 12 = .ok (.aload_n 0, 1) := by decide +kernel
theorem dX7_sleeperRate_13 : decode cX7_sleeperRate 13 = .ok (.iload_n 1, 1) := by decide +kernel
theorem dX7_sleeperRate_14 : decode cX7_sleeperRate 14 = .ok (.invokevirtual 186, 3) := by decide +kernel
theorem dX7_sleeperRate_17 : decode cX7_sleeperRate 17 = .ok (.aload_n 0, 1) := by decide +kernel
theorem dX7_sleeperRate_18 : decode cX7_sleeperRate 18 = .ok (.getfield 29, 3) := by decide +kernel
theorem dX7_sleeperRate_21 : decode cX7_sleeperRate 21 = .ok (.getfield 106, 3) := by decide +kernel
theorem dX7_sleeperRate_24 : decode cX7_sleeperRate 24 = .ok (.iadd, 1) := by decide +kernel
theorem dX7_sleeperRate_25 : decode cX7_sleeperRate 25 = .ok (.ireturn, 1) := by decide +kernel
