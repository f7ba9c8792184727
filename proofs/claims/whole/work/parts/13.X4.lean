theorem dX4_speaker_0 : decode cX4_speaker 0 = .ok (.iload_n 1, 1) := by decide +kernel
theorem dX4_speaker_1 : decode cX4_speaker 1 = .ok (.iconst 3, 1) := by decide +kernel
theorem dX4_speaker_2 : decode cX4_speaker 2 = .ok (.iload_n 0, 1) := by decide +kernel
theorem dX4_speaker_3 : decode cX4_speaker 3 = .ok (.imul, 1) := by decide +kernel
theorem dX4_speaker_4 : decode cX4_speaker 4 = .ok (.ishr, 1) := by decide +kernel
theorem dX4_speaker_5 : decode cX4_speaker 5 = .ok (.bipush 7, 2) := by decide +kernel
theorem dX4_speaker_7 : decode cX4_speaker 7 = .ok (.iand, 1) := by decide +kernel
theorem dX4_speaker_8 : decode cX4_speaker 8 = .ok (.ireturn, 1) := by decide +kernel
theorem dX4_saved_0 : decode cX4_saved 0 = .ok (.iload_n 0, 1) := by decide +kernel
theorem dX4_saved_1 : decode cX4_saved 1 = .ok (.bipush 15, 2) := by decide +kernel
theorem dX4_saved_3 : decode cX4_saved 3 = .ok (.ishr, 1) := by decide +kernel
theorem dX4_saved_4 : decode cX4_saved 4 = .ok (.ireturn, 1) := by decide +kernel
theorem dX4_withFirst_0 : decode cX4_withFirst 0 = .ok (.iload_n 1, 1) := by decide +kernel
theorem dX4_withFirst_1 : decode cX4_withFirst 1 = .ok (.iconst 3, 1) := by decide +kernel
theorem dX4_withFirst_2 : decode cX4_withFirst 2 = .ok (.ishl, 1) := by decide +kernel
theorem dX4_withFirst_3 : decode cX4_withFirst 3 = .ok (.iload_n 0, 1) := by decide +kernel
theorem dX4_withFirst_4 : decode cX4_withFirst 4 = .ok (.ior, 1) := by decide +kernel
theorem dX4_withFirst_5 : decode cX4_withFirst 5 = .ok (.ireturn, 1) := by decide +kernel
set_option maxRecDepth 20000 in
theorem ggX4_fewestMinutes_X4_carrying : GoodIn wsX4_fewestMinutes wsX4_carrying := goodIn_r _ [4, 5, 6, 7, 8, 9, 10, 11, 12, 13, 14, 15, 16, 17, 18, 19, 20, 21, 22, 23, 24, 25, 26, 27, 28, 29, 30, 31, 32, 33, 34, 35, 36, 37, 38, 39, 40, 41, 42, 43, 44, 45, 46, 47, 48, 49, 50, 51, 52, 53, 54, 55, 56, 57, 58, 1, 2, 3, 59, 60, 61, 67, 68, 69, 70, 71, 72, 73, 74] (by decide +kernel) (by decide +kernel)
set_option maxRecDepth 20000 in
theorem gX4_fewestMinutes_X4_carrying : GoodIn wsX4_fewestMinutes (va_wsS RX4 20 yX4_carrying wsX4_carrying) := goodIn_app (goodIn_of _ (by decide +kernel)) ggX4_fewestMinutes_X4_carrying
theorem dX4_fewestMinutes_0 : decode cX4_fewestMinutes 0 = .ok (.iconst 0, 1) := by decide +kernel
theorem dX4_fewestMinutes_1 : decode cX4_fewestMinutes 1 = .ok (.istore_n 3, 1) := by decide +kernel
theorem dX4_fewestMinutes_2 : decode cX4_fewestMinutes 2 = .ok (.iload_n 3, 1) := by decide +kernel
theorem dX4_fewestMinutes_3 : decode cX4_fewestMinutes 3 = .ok (.iconst 5, 1) := by decide +kernel
theorem dX4_fewestMinutes_4 : decode cX4_fewestMinutes 4 = .ok (.if_icmp .gt 30, 3) := by decide +kernel
theorem dX4_fewestMinutes_7 : decode cX4_fewestMinutes 7 = .ok (.aload_n 0, 1) := by decide +kernel
theorem dX4_fewestMinutes_8 : decode cX4_fewestMinutes 8 = .ok (.aload_n 1, 1) := by decide +kernel
theorem dX4_fewestMinutes_9 : decode cX4_fewestMinutes 9 = .ok (.getfield 11, 3) := by decide +kernel
theorem dX4_fewestMinutes_12 : decode cX4_fewestMinutes 12 = .ok (.aload_n 1, 1) := by decide +kernel
theorem dX4_fewestMinutes_13 : decode cX4_fewestMinutes 13 = .ok (.getfield 17, 3) := by decide +kernel
theorem dX4_fewestMinutes_16 : decode cX4_fewestMinutes 16 = .ok (.iload_n 2, 1) := by decide +kernel
theorem dX4_fewestMinutes_17 : decode cX4_fewestMinutes 17 = .ok (.iload_n 3, 1) := by decide +kernel
theorem dX4_fewestMinutes_18 : decode cX4_fewestMinutes 18 = .ok (.invokestatic 20, 3) := by decide +kernel
theorem dX4_fewestMinutes_21 : decode cX4_fewestMinutes 21 = .ok (.bipush (-9), 2) := by decide +kernel
theorem dX4_fewestMinutes_23 : decode cX4_fewestMinutes 23 = .ok (.if_icmp .eq 5, 3) := by decide +kernel
theorem dX4_fewestMinutes_26 : decode cX4_fewestMinutes 26 = .ok (.iload_n 3, 1) := by decide +kernel
theorem dX4_fewestMinutes_27 : decode cX4_fewestMinutes 27 = .ok (.ireturn, 1) := by decide +kernel
theorem dX4_fewestMinutes_28 : decode cX4_fewestMinutes 28 = .ok (.iinc 3 1, 3) := by decide +kernel
theorem dX4_fewestMinutes_31 : decode cX4_fewestMinutes 31 = .ok (.goto (-29), 3) := by decide +kernel
theorem dX4_fewestMinutes_34 : decode cX4_fewestMinutes 34 = .ok (.bipush (-9), 2) := by decide +kernel
theorem dX4_fewestMinutes_36 : decode cX4_fewestMinutes 36 = .ok (.ireturn, 1) := by decide +kernel
set_option maxRecDepth 20000 in
theorem ggX4_firstToCarry_X4_carrying : GoodIn wsX4_firstToCarry wsX4_carrying := goodIn_r _ [4, 5, 6, 7, 8, 9, 10, 11, 12, 13, 14, 15, 16, 17, 18, 19, 20, 21, 22, 23, 24, 25, 26, 27, 28, 29, 30, 31, 32, 33, 34, 35, 36, 37, 38, 39, 40, 41, 42, 43, 44, 45, 46, 47, 48, 49, 50, 51, 52, 53, 54, 55, 56, 57, 58, 1, 2, 3, 59, 60, 61, 67, 68, 69, 70, 71, 72, 73, 74] (by decide +kernel) (by decide +kernel)
set_option maxRecDepth 20000 in
theorem gX4_firstToCarry_X4_carrying : GoodIn wsX4_firstToCarry (va_wsS RX4 20 yX4_carrying wsX4_carrying) := goodIn_app (goodIn_of _ (by decide +kernel)) ggX4_firstToCarry_X4_carrying
theorem dX4_firstToCarry_0 : decode cX4_firstToCarry 0 = .ok (.aload_n 0, 1) := by decide +kernel
theorem dX4_firstToCarry_1 : decode cX4_firstToCarry 1 = .ok (.aload_n 1, 1) := by decide +kernel
theorem dX4_firstToCarry_2 : decode cX4_firstToCarry 2 = .ok (.getfield 11, 3) := by decide +kernel
theorem dX4_firstToCarry_5 : decode cX4_firstToCarry 5 = .ok (.aload_n 1, 1) := by decide +kernel
theorem dX4_firstToCarry_6 : decode cX4_firstToCarry 6 = .ok (.getfield 17, 3) := by decide +kernel
theorem dX4_firstToCarry_9 : decode cX4_firstToCarry 9 = .ok (.bipush (-9), 2) := by decide +kernel
theorem dX4_firstToCarry_11 : decode cX4_firstToCarry 11 = .ok (.iload_n 2, 1) := by decide +kernel
theorem dX4_firstToCarry_12 : decode cX4_firstToCarry 12 = .ok (.invokestatic 20, 3) := by decide +kernel
theorem dX4_firstToCarry_15 : decode cX4_firstToCarry 15 = .ok (.ireturn, 1) := by decide +kernel
set_option maxRecDepth 20000 in
theorem ggX4_carrying_X2_isCarried : GoodIn wsX4_carrying wsX2_isCarried := goodIn_r _ [5, 6, 7, 8, 9, 4, 10, 11, 12, 13, 14, 15, 16, 17, 18, 19, 20, 21, 22, 23, 24, 25, 26, 27, 28, 61, 62, 63, 64, 65, 66, 67, 68] (by decide +kernel) (by decide +kernel)
set_option maxRecDepth 20000 in
theorem gX4_carrying_X2_isCarried : GoodIn wsX4_carrying (wsV RX4 24 RX2 yX2_isCarried wsX2_isCarried) := goodIn_app (goodIn_of _ (by decide +kernel)) ggX4_carrying_X2_isCarried
set_option maxRecDepth 20000 in
theorem ggX4_carrying_X2_mightBeCarried : GoodIn wsX4_carrying wsX2_mightBeCarried := goodIn_r _ [32, 11, 33, 34, 35, 36, 4, 37, 6, 16, 17, 18, 19, 20, 21, 61, 62, 63, 64, 65, 66, 67, 68] (by decide +kernel) (by decide +kernel)
set_option maxRecDepth 20000 in
theorem gX4_carrying_X2_mightBeCarried : GoodIn wsX4_carrying (wsV RX4 30 RX2 yX2_mightBeCarried wsX2_mightBeCarried) := goodIn_app (goodIn_of _ (by decide +kernel)) ggX4_carrying_X2_mightBeCarried
set_option maxRecDepth 20000 in
theorem ggX4_carrying_X2_isFrozen : GoodIn wsX4_carrying wsX2_isFrozen := goodIn_r _ [18, 19, 20, 4, 21] (by decide +kernel) (by decide +kernel)
set_option maxRecDepth 20000 in
theorem gX4_carrying_X2_isFrozen : GoodIn wsX4_carrying (va_wsS RX4 37 yX2_isFrozen wsX2_isFrozen) := goodIn_app (goodIn_of _ (by decide +kernel)) ggX4_carrying_X2_isFrozen
set_option maxRecDepth 20000 in
theorem ggX4_carrying_X2_afterMinute : GoodIn wsX4_carrying wsX2_afterMinute := goodIn_r _ [42, 11, 43, 44, 45, 46, 33, 47, 48, 49, 50, 51, 52, 4, 53, 54, 19, 20, 21, 61, 62, 63, 64, 65, 66, 67, 68] (by decide +kernel) (by decide +kernel)
set_option maxRecDepth 20000 in
theorem gX4_carrying_X2_afterMinute : GoodIn wsX4_carrying (wsV RX4 40 RX2 yX2_afterMinute wsX2_afterMinute) := goodIn_app (goodIn_of _ (by decide +kernel)) ggX4_carrying_X2_afterMinute
set_option maxRecDepth 20000 in
theorem ggX4_carrying_X4_carrying : GoodIn wsX4_carrying wsX4_carrying := goodIn_r _ [0, 1, 2, 3, 4, 5, 6, 7, 8, 9, 10, 11, 12, 13, 14, 15, 16, 17, 18, 19, 20, 21, 22, 23, 24, 25, 26, 27, 28, 29, 30, 31, 32, 33, 34, 35, 36, 37, 38, 39, 40, 41, 42, 43, 44, 45, 46, 47, 48, 49, 50, 51, 52, 53, 54, 55, 56, 57, 58, 59, 60, 61, 62, 63, 64, 65, 66, 67, 68] (by decide +kernel) (by decide +kernel)
set_option maxRecDepth 20000 in
theorem gX4_carrying_X4_carrying : GoodIn wsX4_carrying (va_wsS RX4 20 yX4_carrying wsX4_carrying) := goodIn_app (goodIn_of _ (by decide +kernel)) ggX4_carrying_X4_carrying
set_option maxRecDepth 20000 in
theorem ggX4_carrying_X4_withFirst : GoodIn wsX4_carrying wsX4_withFirst := goodIn_r _ [60] (by decide +kernel) (by decide +kernel)
set_option maxRecDepth 20000 in
theorem gX4_carrying_X4_withFirst : GoodIn wsX4_carrying (va_wsS RX4 44 yX4_withFirst wsX4_withFirst) := goodIn_app (goodIn_of _ (by decide +kernel)) ggX4_carrying_X4_withFirst
theorem dX4_carrying_0 : decode cX4_carrying 0 = .ok (.iload 4, 2) := by decide +kernel
theorem dX4_carrying_2 : decode cX4_carrying 2 = .ok (.ifCond .gt 18, 3) := by decide +kernel
theorem dX4_carrying_5 : decode cX4_carrying 5 = .ok (.aload_n 0, 1) := by decide +kernel
theorem dX4_carrying_6 : decode cX4_carrying 6 = .ok (.iload_n 1, 1) := by decide +kernel
theorem dX4_carrying_7 : decode cX4_carrying 7 = .ok (.invokevirtual 24, 3) := by decide +kernel
theorem dX4_carrying_10 : decode cX4_carrying 10 = .ok (.ifCond .eq 7, 3) := by decide +kernel
theorem dX4_carrying_13 : decode cX4_carrying 13 = .ok (.iconst 0, 1) := by decide +kernel
theorem dX4_carrying_14 : decode cX4_carrying 14 = .ok (.goto 5, 3) := by decide +kernel
theorem dX4_carrying_17 : decode cX4_carrying 17 = .ok (.bipush (-9), 2) := by decide +kernel
theorem dX4_carrying_19 : decode cX4_carrying 19 = .ok (.ireturn, 1) := by decide +kernel
theorem dX4_carrying_20 : decode cX4_carrying 20 = .ok (.aload_n 0, 1) := by decide +kernel
theorem dX4_carrying_21 : decode cX4_carrying 21 = .ok (.iload_n 1, 1) := by decide +kernel
theorem dX4_carrying_22 : decode cX4_carrying 22 = .ok (.iload 4, 2) := by decide +kernel
theorem dX4_carrying_24 : decode cX4_carrying 24 = .ok (.invokevirtual 30, 3) := by decide +kernel
theorem dX4_carrying_27 : decode cX4_carrying 27 = .ok (.ifCond .ne 6, 3) := by decide +kernel
theorem dX4_carrying_30 : decode cX4_carrying 30 = .ok (.bipush (-9), 2) := by decide +kernel
theorem dX4_carrying_32 : decode cX4_carrying 32 = .ok (.ireturn, 1) := by decide +kernel
theorem dX4_carrying_33 : decode cX4_carrying 33 = .ok (.iconst 0, 1) := by decide +kernel
theorem dX4_carrying_34 : decode cX4_carrying 34 = .ok (.istore 5, 2) := by decide +kernel
theorem dX4_carrying_36 : decode cX4_carrying 36 = .ok (.iload 5, 2) := by decide +kernel
theorem dX4_carrying_38 : decode cX4_carrying 38 = .ok (.aload_n 0, 1) := by decide +kernel
theorem dX4_carrying_39 : decode cX4_carrying 39 = .ok (.getfield 34, 3) := by decide +kernel
theorem dX4_carrying_42 : decode cX4_carrying 42 = .ok (.if_icmp .ge 62, 3) := by decide +kernel
theorem dX4_carrying_45 : decode cX4_carrying 45 = .ok (.iload 5, 2) := by decide +kernel
theorem dX4_carrying_47 : decode cX4_carrying 47 = .ok (.iload_n 3, 1) := by decide +kernel
theorem dX4_carrying_48 : decode cX4_carrying 48 = .ok (.if_icmp .eq 50, 3) := by decide +kernel
theorem dX4_carrying_51 : decode cX4_carrying 51 = .ok (.iload 5, 2) := by decide +kernel
theorem dX4_carrying_53 : decode cX4_carrying 53 = .ok (.iload_n 1, 1) := by decide +kernel
theorem dX4_carrying_54 : decode cX4_carrying 54 = .ok (.invokestatic 37, 3) := by decide +kernel
theorem dX4_carrying_57 : decode cX4_carrying 57 = .ok (.ifCond .eq 6, 3) := by decide +kernel
theorem dX4_carrying_60 : decode cX4_carrying 60 = .ok (.goto 38, 3) := by decide +kernel
theorem dX4_carrying_63 : decode cX4_carrying 63 = .ok (.aload_n 0, 1) := by decide +kernel
theorem dX4_carrying_64 : decode cX4_carrying 64 = .ok (.aload_n 0, 1) := by decide +kernel
theorem dX4_carrying_65 : decode cX4_carrying 65 = .ok (.iload_n 1, 1) := by decide +kernel
theorem dX4_carrying_66 : decode cX4_carrying 66 = .ok (.iload 5, 2) := by decide +kernel
theorem dX4_carrying_68 : decode cX4_carrying 68 = .ok (.iload_n 2, 1) := by decide +kernel
theorem dX4_carrying_69 : decode cX4_carrying 69 = .ok (.invokevirtual 40, 3) := by decide +kernel
theorem dX4_carrying_72 : decode cX4_carrying 72 = .ok (.iload_n 2, 1) := by decide +kernel
theorem dX4_carrying_73 : decode cX4_carrying 73 = .ok (.iload_n 3, 1) := by decide +kernel
theorem dX4_carrying_74 : decode cX4_carrying 74 = .ok (.iload 4, 2) := by decide +kernel
theorem dX4_carrying_76 : decode cX4_carrying 76 = .ok (.iconst 1, 1) := by decide +kernel
theorem dX4_carrying_77 : decode cX4_carrying 77 = .ok (.isub, 1) := by decide +kernel
theorem dX4_carrying_78 : decode cX4_carrying 78 = .ok (.invokestatic 20, 3) := by decide +kernel
theorem dX4_carrying_81 : decode cX4_carrying 81 = .ok (.istore 6, 2) := by decide +kernel
theorem dX4_carrying_83 : decode cX4_carrying 83 = .ok (.iload 6, 2) := by decide +kernel
theorem dX4_carrying_85 : decode cX4_carrying 85 = .ok (.bipush (-9), 2) := by decide +kernel
theorem dX4_carrying_87 : decode cX4_carrying 87 = .ok (.if_icmp .eq 11, 3) := by decide +kernel
theorem dX4_carrying_90 : decode cX4_carrying 90 = .ok (.iload 5, 2) := by decide +kernel
theorem dX4_carrying_92 : decode cX4_carrying 92 = .ok (.iload 6, 2) := by decide +kernel
theorem dX4_carrying_94 : decode cX4_carrying 94 = .ok (.invokestatic 44, 3) := by decide +kernel
theorem dX4_carrying_97 : decode cX4_carrying 97 = .ok (.ireturn, 1) := by decide +kernel
theorem dX4_carrying_98 : decode cX4_carrying 98 = .ok (.iinc 5 1, 3) := by decide +kernel
theorem dX4_carrying_101 : decode cX4_carrying 101 = .ok (.goto (-65), 3) := by decide +kernel
theorem dX4_carrying_104 : decode cX4_carrying 104 = .ok (.bipush (-9), 2) := by decide +kernel
theorem dX4_carrying_106 : decode cX4_carrying 106 = .ok (.ireturn, 1) := by decide +kernel
set_option maxRecDepth 20000 in
theorem ggX4_firstToSave_X4_saving : GoodIn wsX4_firstToSave wsX4_saving := goodIn_r _ [4, 5, 6, 7, 8, 9, 10, 11, 12, 13, 14, 15, 16, 17, 18, 19, 20, 21, 22, 23, 24, 25, 26, 27, 28, 29, 30, 31, 32, 33, 34, 35, 36, 37, 38, 39, 40, 41, 42, 43, 44, 45, 1, 2, 3, 46, 47, 48, 49, 50, 51, 57, 58, 59, 60, 61, 62, 63, 64] (by decide +kernel) (by decide +kernel)
set_option maxRecDepth 20000 in
theorem gX4_firstToSave_X4_saving : GoodIn wsX4_firstToSave (va_wsS RX4 48 yX4_saving wsX4_saving) := goodIn_app (goodIn_of _ (by decide +kernel)) ggX4_firstToSave_X4_saving
theorem dX4_firstToSave_0 : decode cX4_firstToSave 0 = .ok (.aload_n 0, 1) := by decide +kernel
theorem dX4_firstToSave_1 : decode cX4_firstToSave 1 = .ok (.aload_n 1, 1) := by decide +kernel
theorem dX4_firstToSave_2 : decode cX4_firstToSave 2 = .ok (.getfield 11, 3) := by decide +kernel
theorem dX4_firstToSave_5 : decode cX4_firstToSave 5 = .ok (.aload_n 1, 1) := by decide +kernel
theorem dX4_firstToSave_6 : decode cX4_firstToSave 6 = .ok (.getfield 17, 3) := by decide +kernel
theorem dX4_firstToSave_9 : decode cX4_firstToSave 9 = .ok (.iload_n 2, 1) := by decide +kernel
theorem dX4_firstToSave_10 : decode cX4_firstToSave 10 = .ok (.iconst (-1), 1) := by decide +kernel
theorem dX4_firstToSave_11 : decode cX4_firstToSave 11 = .ok (.invokestatic 48, 3) := by decide +kernel
theorem dX4_firstToSave_14 : decode cX4_firstToSave 14 = .ok (.ireturn, 1) := by decide +kernel
set_option maxRecDepth 20000 in
theorem ggX4_saving_X2_notFrozen : GoodIn wsX4_saving wsX2_notFrozen := goodIn_r _ [5, 6, 7, 8, 9, 4, 10, 11, 12, 13, 14, 15, 16, 17, 18, 19, 20, 21, 22, 23, 51, 52, 53, 54, 55, 56, 57, 58] (by decide +kernel) (by decide +kernel)
set_option maxRecDepth 20000 in
theorem gX4_saving_X2_notFrozen : GoodIn wsX4_saving (wsV RX4 51 RX2 yX2_notFrozen wsX2_notFrozen) := goodIn_app (goodIn_of _ (by decide +kernel)) ggX4_saving_X2_notFrozen
set_option maxRecDepth 20000 in
theorem ggX4_saving_X2_isFrozen : GoodIn wsX4_saving wsX2_isFrozen := goodIn_r _ [13, 14, 15, 4, 16] (by decide +kernel) (by decide +kernel)
set_option maxRecDepth 20000 in
theorem gX4_saving_X2_isFrozen : GoodIn wsX4_saving (va_wsS RX4 37 yX2_isFrozen wsX2_isFrozen) := goodIn_app (goodIn_of _ (by decide +kernel)) ggX4_saving_X2_isFrozen
set_option maxRecDepth 20000 in
theorem ggX4_saving_X2_afterMinute : GoodIn wsX4_saving wsX2_afterMinute := goodIn_r _ [28, 6, 29, 30, 31, 32, 33, 34, 35, 36, 37, 38, 39, 4, 40, 41, 14, 15, 16, 51, 52, 53, 54, 55, 56, 57, 58] (by decide +kernel) (by decide +kernel)
set_option maxRecDepth 20000 in
theorem gX4_saving_X2_afterMinute : GoodIn wsX4_saving (wsV RX4 40 RX2 yX2_afterMinute wsX2_afterMinute) := goodIn_app (goodIn_of _ (by decide +kernel)) ggX4_saving_X2_afterMinute
set_option maxRecDepth 20000 in
theorem ggX4_saving_X4_saving : GoodIn wsX4_saving wsX4_saving := goodIn_r _ [0, 1, 2, 3, 4, 5, 6, 7, 8, 9, 10, 11, 12, 13, 14, 15, 16, 17, 18, 19, 20, 21, 22, 23, 24, 25, 26, 27, 28, 29, 30, 31, 32, 33, 34, 35, 36, 37, 38, 39, 40, 41, 42, 43, 44, 45, 46, 47, 48, 49, 50, 51, 52, 53, 54, 55, 56, 57, 58] (by decide +kernel) (by decide +kernel)
set_option maxRecDepth 20000 in
theorem gX4_saving_X4_saving : GoodIn wsX4_saving (va_wsS RX4 48 yX4_saving wsX4_saving) := goodIn_app (goodIn_of _ (by decide +kernel)) ggX4_saving_X4_saving
set_option maxRecDepth 20000 in
theorem ggX4_saving_X4_saved : GoodIn wsX4_saving wsX4_saved := goodIn_r _ [47] (by decide +kernel) (by decide +kernel)
set_option maxRecDepth 20000 in
theorem gX4_saving_X4_saved : GoodIn wsX4_saving (va_wsS RX4 55 yX4_saved wsX4_saved) := goodIn_app (goodIn_of _ (by decide +kernel)) ggX4_saving_X4_saved
set_option maxRecDepth 20000 in
theorem ggX4_saving_X4_withFirst : GoodIn wsX4_saving wsX4_withFirst := goodIn_r _ [50] (by decide +kernel) (by decide +kernel)
set_option maxRecDepth 20000 in
theorem gX4_saving_X4_withFirst : GoodIn wsX4_saving (va_wsS RX4 44 yX4_withFirst wsX4_withFirst) := goodIn_app (goodIn_of _ (by decide +kernel)) ggX4_saving_X4_withFirst
theorem dX4_saving_0 : decode cX4_saving 0 = .ok (.aload_n 0, 1) := by decide +kernel
theorem dX4_saving_1 : decode cX4_saving 1 = .ok (.iload_n 1, 1) := by decide +kernel
theorem dX4_saving_2 : decode cX4_saving 2 = .ok (.invokevirtual 51, 3) := by decide +kernel
theorem dX4_saving_5 : decode cX4_saving 5 = .ok (.istore 5, 2) := by decide +kernel
theorem dX4_saving_7 : decode cX4_saving 7 = .ok (.iload 5, 2) := by decide +kernel
theorem dX4_saving_9 : decode cX4_saving 9 = .ok (.iload 4, 2) := by decide +kernel
theorem dX4_saving_11 : decode cX4_saving 11 = .ok (.if_icmp .gt 6, 3) := by decide +kernel
theorem dX4_saving_14 : decode cX4_saving 14 = .ok (.bipush (-9), 2) := by decide +kernel
theorem dX4_saving_16 : decode cX4_saving 16 = .ok (.ireturn, 1) := by decide +kernel
theorem dX4_saving_17 : decode cX4_saving 17 = .ok (.iload_n 3, 1) := by decide +kernel
theorem dX4_saving_18 : decode cX4_saving 18 = .ok (.ifCond .gt 9, 3) := by decide +kernel
theorem dX4_saving_21 : decode cX4_saving 21 = .ok (.iload 5, 2) := by decide +kernel
theorem dX4_saving_23 : decode cX4_saving 23 = .ok (.bipush 15, 2) := by decide +kernel
theorem dX4_saving_25 : decode cX4_saving 25 = .ok (.ishl, 1) := by decide +kernel
theorem dX4_saving_26 : decode cX4_saving 26 = .ok (.ireturn, 1) := by decide +kernel
theorem dX4_saving_27 : decode cX4_saving 27 = .ok (.bipush (-9), 2) := by decide +kernel
theorem dX4_saving_29 : decode cX4_saving 29 = .ok (.istore 6, 2) := by decide +kernel
theorem dX4_saving_31 : decode cX4_saving 31 = .ok (.iload 4, 2) := by decide +kernel
theorem dX4_saving_33 : decode cX4_saving 33 = .ok (.istore 7, 2) := by decide +kernel
theorem dX4_saving_35 : decode cX4_saving 35 = .ok (.iconst 0, 1) := by decide +kernel
theorem dX4_saving_36 : decode cX4_saving 36 = .ok (.istore 8, 2) := by decide +kernel
theorem dX4_saving_38 : decode cX4_saving 38 = .ok (.iload 8, 2) := by decide +kernel
theorem dX4_saving_40 : decode cX4_saving 40 = .ok (.aload_n 0, 1) := by decide +kernel
theorem dX4_saving_41 : decode cX4_saving 41 = .ok (.getfield 34, 3) := by decide +kernel
theorem dX4_saving_44 : decode cX4_saving 44 = .ok (.if_icmp .ge 81, 3) := by decide +kernel
theorem dX4_saving_47 : decode cX4_saving 47 = .ok (.iload 7, 2) := by decide +kernel
theorem dX4_saving_49 : decode cX4_saving 49 = .ok (.iload 5, 2) := by decide +kernel
theorem dX4_saving_51 : decode cX4_saving 51 = .ok (.if_icmp .ge 74, 3) := by decide +kernel
theorem dX4_saving_54 : decode cX4_saving 54 = .ok (.iload 8, 2) := by decide +kernel
theorem dX4_saving_56 : decode cX4_saving 56 = .ok (.iload_n 1, 1) := by decide +kernel
theorem dX4_saving_57 : decode cX4_saving 57 = .ok (.invokestatic 37, 3) := by decide +kernel
theorem dX4_saving_60 : decode cX4_saving 60 = .ok (.ifCond .eq 6, 3) := by decide +kernel
theorem dX4_saving_63 : decode cX4_saving 63 = .ok (.goto 56, 3) := by decide +kernel
theorem dX4_saving_66 : decode cX4_saving 66 = .ok (.aload_n 0, 1) := by decide +kernel
theorem dX4_saving_67 : decode cX4_saving 67 = .ok (.aload_n 0, 1) := by decide +kernel
theorem dX4_saving_68 : decode cX4_saving 68 = .ok (.iload_n 1, 1) := by decide +kernel
theorem dX4_saving_69 : decode cX4_saving 69 = .ok (.iload 8, 2) := by decide +kernel
theorem dX4_saving_71 : decode cX4_saving 71 = .ok (.iload_n 2, 1) := by decide +kernel
theorem dX4_saving_72 : decode cX4_saving 72 = .ok (.invokevirtual 40, 3) := by decide +kernel
theorem dX4_saving_75 : decode cX4_saving 75 = .ok (.iload_n 2, 1) := by decide +kernel
theorem dX4_saving_76 : decode cX4_saving 76 = .ok (.iload_n 3, 1) := by decide +kernel
theorem dX4_saving_77 : decode cX4_saving 77 = .ok (.iconst 1, 1) := by decide +kernel
theorem dX4_saving_78 : decode cX4_saving 78 = .ok (.isub, 1) := by decide +kernel
theorem dX4_saving_79 : decode cX4_saving 79 = .ok (.iload 7, 2) := by decide +kernel
theorem dX4_saving_81 : decode cX4_saving 81 = .ok (.invokestatic 48, 3) := by decide +kernel
theorem dX4_saving_84 : decode cX4_saving 84 = .ok (.istore 9, 2) := by decide +kernel
theorem dX4_saving_86 : decode cX4_saving 86 = .ok (.iload 9, 2) := by decide +kernel
theorem dX4_saving_88 : decode cX4_saving 88 = .ok (.bipush (-9), 2) := by decide +kernel
theorem dX4_saving_90 : decode cX4_saving 90 = .ok (.if_icmp .eq 29, 3) := by decide +kernel
theorem dX4_saving_93 : decode cX4_saving 93 = .ok (.iload 9, 2) := by decide +kernel
theorem dX4_saving_95 : decode cX4_saving 95 = .ok (.invokestatic 55, 3) := by decide +kernel
theorem dX4_saving_98 : decode cX4_saving 98 = .ok (.istore 7, 2) := by decide +kernel
theorem dX4_saving_100 : decode cX4_saving 100 = .ok (.iload 7, 2) := by decide +kernel
theorem dX4_saving_102 : decode cX4_saving 102 = .ok (.bipush 15, 2) := by decide +kernel
theorem dX4_saving_104 : decode cX4_saving 104 = .ok (.ishl, 1) := by decide +kernel
theorem dX4_saving_105 : decode cX4_saving 105 = .ok (.iload 8, 2) := by decide +kernel
theorem dX4_saving_107 : decode cX4_saving 107 = .ok (.iload 9, 2) := by decide +kernel
theorem dX4_saving_109 : decode cX4_saving 109 = .ok (.sipush 32767, 3) := by decide +kernel
theorem dX4_saving_112 : decode cX4_saving 112 = .ok (.iand, 1) := by decide +kernel
theorem dX4_saving_113 : decode cX4_saving 113 = .ok (.invokestatic 44, 3) := by decide +kernel
theorem dX4_saving_116 : decode cX4_saving 116 = .ok (.ior, 1) := by decide +kernel
theorem dX4_saving_117 : decode cX4_saving 117 = .ok (.istore 6, 2) := by decide +kernel
theorem dX4_saving_119 : decode cX4_saving 119 = .ok (.iinc 8 1, 3) := by decide +kernel
theorem dX4_saving_122 : decode cX4_saving 122 = .ok (.goto (-84), 3) := by decide +kernel
theorem dX4_saving_125 : decode cX4_saving 125 = .ok (.iload 6, 2) := by decide +kernel
theorem dX4_saving_127 : decode cX4_saving 127 = .ok (.ireturn, 1) := by decide +kernel
set_option maxRecDepth 20000 in
theorem ggX4_isWon_X4_winning : GoodIn wsX4_isWon wsX4_winning := goodIn_r _ [4, 5, 6, 7, 8, 9, 10, 11, 12, 13, 14, 15, 16, 17, 18, 19, 20, 21, 22, 23, 24, 25, 26, 27, 28, 29, 30, 31, 32, 33, 34, 35, 36, 37, 38, 39, 40, 41, 42, 43, 44, 45, 46, 47, 48, 49, 50, 51, 52, 53, 54, 1, 2, 3, 60, 61, 62, 63, 64, 65, 66, 67] (by decide +kernel) (by decide +kernel)
set_option maxRecDepth 20000 in
theorem gX4_isWon_X4_winning : GoodIn wsX4_isWon (va_wsS RX4 61 yX4_winning wsX4_winning) := goodIn_app (goodIn_of _ (by decide +kernel)) ggX4_isWon_X4_winning
theorem dX4_isWon_0 : decode cX4_isWon 0 = .ok (.aload_n 0, 1) := by decide +kernel
theorem dX4_isWon_1 : decode cX4_isWon 1 = .ok (.aload_n 1, 1) := by decide +kernel
theorem dX4_isWon_2 : decode cX4_isWon 2 = .ok (.getfield 11, 3) := by decide +kernel
theorem dX4_isWon_5 : decode cX4_isWon 5 = .ok (.aload_n 1, 1) := by decide +kernel
theorem dX4_isWon_6 : decode cX4_isWon 6 = .ok (.getfield 58, 3) := by decide +kernel
theorem dX4_isWon_9 : decode cX4_isWon 9 = .ok (.aload_n 1, 1) := by decide +kernel
theorem dX4_isWon_10 : decode cX4_isWon 10 = .ok (.getfield 17, 3) := by decide +kernel
theorem dX4_isWon_13 : decode cX4_isWon 13 = .ok (.iconst 1, 1) := by decide +kernel
theorem dX4_isWon_14 : decode cX4_isWon 14 = .ok (.iload_n 2, 1) := by decide +kernel
theorem dX4_isWon_15 : decode cX4_isWon 15 = .ok (.invokestatic 61, 3) := by decide +kernel
theorem dX4_isWon_18 : decode cX4_isWon 18 = .ok (.ireturn, 1) := by decide +kernel
set_option maxRecDepth 20000 in
theorem ggX4_firstToWin_X2_sideOf : GoodIn wsX4_firstToWin wsX2_sideOf := goodIn_r _ [5, 6, 55, 56, 57, 58, 59, 60, 61, 62] (by decide +kernel) (by decide +kernel)
set_option maxRecDepth 20000 in
theorem gX4_firstToWin_X2_sideOf : GoodIn wsX4_firstToWin (wsV RX4 65 RX2 yX2_sideOf wsX2_sideOf) := goodIn_app (goodIn_of _ (by decide +kernel)) ggX4_firstToWin_X2_sideOf
set_option maxRecDepth 20000 in
theorem ggX4_firstToWin_X2_isFrozen : GoodIn wsX4_firstToWin wsX2_isFrozen := goodIn_r _ [9, 10, 11, 4, 12] (by decide +kernel) (by decide +kernel)
set_option maxRecDepth 20000 in
theorem gX4_firstToWin_X2_isFrozen : GoodIn wsX4_firstToWin (va_wsS RX4 37 yX2_isFrozen wsX2_isFrozen) := goodIn_app (goodIn_of _ (by decide +kernel)) ggX4_firstToWin_X2_isFrozen
set_option maxRecDepth 20000 in
theorem ggX4_firstToWin_X2_afterMinute : GoodIn wsX4_firstToWin wsX2_afterMinute := goodIn_r _ [16, 17, 18, 19, 20, 21, 22, 23, 24, 25, 26, 27, 28, 4, 29, 30, 10, 11, 12, 55, 56, 57, 58, 59, 60, 61, 62] (by decide +kernel) (by decide +kernel)
set_option maxRecDepth 20000 in
theorem gX4_firstToWin_X2_afterMinute : GoodIn wsX4_firstToWin (wsV RX4 40 RX2 yX2_afterMinute wsX2_afterMinute) := goodIn_app (goodIn_of _ (by decide +kernel)) ggX4_firstToWin_X2_afterMinute
set_option maxRecDepth 20000 in
theorem ggX4_firstToWin_X4_winning : GoodIn wsX4_firstToWin wsX4_winning := goodIn_r _ [34, 35, 36, 37, 4, 38, 6, 39, 40, 41, 42, 17, 43, 44, 45, 46, 47, 8, 9, 10, 11, 12, 48, 49, 50, 51, 52, 53, 54, 1, 2, 3, 5, 7, 13, 14, 15, 16, 18, 19, 20, 21, 22, 23, 24, 25, 26, 27, 28, 29, 30, 31, 32, 33, 55, 56, 57, 58, 59, 60, 61, 62] (by decide +kernel) (by decide +kernel)
set_option maxRecDepth 20000 in
theorem gX4_firstToWin_X4_winning : GoodIn wsX4_firstToWin (va_wsS RX4 61 yX4_winning wsX4_winning) := goodIn_app (goodIn_of _ (by decide +kernel)) ggX4_firstToWin_X4_winning
theorem dX4_firstToWin_0 : decode cX4_firstToWin 0 = .ok (.iload_n 2, 1) := by decide +kernel
theorem dX4_firstToWin_1 : decode cX4_firstToWin 1 = .ok (.ifCond .gt 6, 3) := by decide +kernel
theorem dX4_firstToWin_4 : decode cX4_firstToWin 4 = .ok (.bipush (-9), 2) := by decide +kernel
theorem dX4_firstToWin_6 : decode cX4_firstToWin 6 = .ok (.ireturn, 1) := by decide +kernel
theorem dX4_firstToWin_7 : decode cX4_firstToWin 7 = .ok (.iconst 0, 1) := by decide +kernel
theorem dX4_firstToWin_8 : decode cX4_firstToWin 8 = .ok (.istore_n 3, 1) := by decide +kernel
theorem dX4_firstToWin_9 : decode cX4_firstToWin 9 = .ok (.iload_n 3, 1) := by decide +kernel
theorem dX4_firstToWin_10 : decode cX4_firstToWin 10 = .ok (.aload_n 0, 1) := by decide +kernel
theorem dX4_firstToWin_11 : decode cX4_firstToWin 11 = .ok (.getfield 34, 3) := by decide +kernel
theorem dX4_firstToWin_14 : decode cX4_firstToWin 14 = .ok (.if_icmp .ge 60, 3) := by decide +kernel
theorem dX4_firstToWin_17 : decode cX4_firstToWin 17 = .ok (.aload_n 0, 1) := by decide +kernel
theorem dX4_firstToWin_18 : decode cX4_firstToWin 18 = .ok (.iload_n 3, 1) := by decide +kernel
theorem dX4_firstToWin_19 : decode cX4_firstToWin 19 = .ok (.invokevirtual 65, 3) := by decide +kernel
theorem dX4_firstToWin_22 : decode cX4_firstToWin 22 = .ok (.iconst 1, 1) := by decide +kernel
theorem dX4_firstToWin_23 : decode cX4_firstToWin 23 = .ok (.if_icmp .ne 45, 3) := by decide +kernel
theorem dX4_firstToWin_26 : decode cX4_firstToWin 26 = .ok (.iload_n 3, 1) := by decide +kernel
theorem dX4_firstToWin_27 : decode cX4_firstToWin 27 = .ok (.aload_n 1, 1) := by decide +kernel
theorem dX4_firstToWin_28 : decode cX4_firstToWin 28 = .ok (.getfield 11, 3) := by decide +kernel
theorem dX4_firstToWin_31 : decode cX4_firstToWin 31 = .ok (.invokestatic 37, 3) := by decide +kernel
theorem dX4_firstToWin_34 : decode cX4_firstToWin 34 = .ok (.ifCond .ne 34, 3) := by decide +kernel
theorem dX4_firstToWin_37 : decode cX4_firstToWin 37 = .ok (.aload_n 0, 1) := by decide +kernel
theorem dX4_firstToWin_38 : decode cX4_firstToWin 38 = .ok (.aload_n 0, 1) := by decide +kernel
theorem dX4_firstToWin_39 : decode cX4_firstToWin 39 = .ok (.aload_n 1, 1) := by decide +kernel
theorem dX4_firstToWin_40 : decode cX4_firstToWin 40 = .ok (.getfield 11, 3) := by decide +kernel
theorem dX4_firstToWin_43 : decode cX4_firstToWin 43 = .ok (.iload_n 3, 1) := by decide +kernel
theorem dX4_firstToWin_44 : decode cX4_firstToWin 44 = .ok (.aload_n 1, 1) := by decide +kernel
theorem dX4_firstToWin_45 : decode cX4_firstToWin 45 = .ok (.getfield 17, 3) := by decide +kernel
theorem dX4_firstToWin_48 : decode cX4_firstToWin 48 = .ok (.invokevirtual 40, 3) := by decide +kernel
theorem dX4_firstToWin_51 : decode cX4_firstToWin 51 = .ok (.iload_n 3, 1) := by decide +kernel
theorem dX4_firstToWin_52 : decode cX4_firstToWin 52 = .ok (.aload_n 1, 1) := by decide +kernel
theorem dX4_firstToWin_53 : decode cX4_firstToWin 53 = .ok (.getfield 17, 3) := by decide +kernel
theorem dX4_firstToWin_56 : decode cX4_firstToWin 56 = .ok (.iconst 0, 1) := by decide +kernel
theorem dX4_firstToWin_57 : decode cX4_firstToWin 57 = .ok (.iload_n 2, 1) := by decide +kernel
theorem dX4_firstToWin_58 : decode cX4_firstToWin 58 = .ok (.iconst 1, 1) := by decide +kernel
theorem dX4_firstToWin_59 : decode cX4_firstToWin 59 = .ok (.isub, 1) := by decide +kernel
theorem dX4_firstToWin_60 : decode cX4_firstToWin 60 = .ok (.invokestatic 61, 3) := by decide +kernel
theorem dX4_firstToWin_63 : decode cX4_firstToWin 63 = .ok (.ifCond .eq 5, 3) := by decide +kernel
theorem dX4_firstToWin_66 : decode cX4_firstToWin 66 = .ok (.iload_n 3, 1) := by decide +kernel
theorem dX4_firstToWin_67 : decode cX4_firstToWin 67 = .ok (.ireturn, 1) := by decide +kernel
theorem dX4_firstToWin_68 : decode cX4_firstToWin 68 = .ok (.iinc 3 1, 3) := by decide +kernel
theorem dX4_firstToWin_71 : decode cX4_firstToWin 71 = .ok (.goto (-62), 3) := by decide +kernel
theorem dX4_firstToWin_74 : decode cX4_firstToWin 74 = .ok (.bipush (-9), 2) := by decide +kernel
theorem dX4_firstToWin_76 : decode cX4_firstToWin 76 = .ok (.ireturn, 1) := by decide +kernel
set_option maxRecDepth 20000 in
theorem ggX4_winning_X2_isCarried : GoodIn wsX4_winning wsX2_isCarried := goodIn_r _ [5, 6, 7, 8, 9, 4, 10, 11, 12, 13, 14, 15, 16, 17, 18, 19, 20, 21, 22, 23, 24, 25, 26, 27, 28, 54, 55, 56, 57, 58, 59, 60, 61] (by decide +kernel) (by decide +kernel)
set_option maxRecDepth 20000 in
theorem gX4_winning_X2_isCarried : GoodIn wsX4_winning (wsV RX4 24 RX2 yX2_isCarried wsX2_isCarried) := goodIn_app (goodIn_of _ (by decide +kernel)) ggX4_winning_X2_isCarried
set_option maxRecDepth 20000 in
theorem ggX4_winning_X2_sideOf : GoodIn wsX4_winning wsX2_sideOf := goodIn_r _ [32, 6, 54, 55, 56, 57, 58, 59, 60, 61] (by decide +kernel) (by decide +kernel)
set_option maxRecDepth 20000 in
theorem gX4_winning_X2_sideOf : GoodIn wsX4_winning (wsV RX4 65 RX2 yX2_sideOf wsX2_sideOf) := goodIn_app (goodIn_of _ (by decide +kernel)) ggX4_winning_X2_sideOf
set_option maxRecDepth 20000 in
theorem ggX4_winning_X2_isFrozen : GoodIn wsX4_winning wsX2_isFrozen := goodIn_r _ [18, 19, 20, 4, 21] (by decide +kernel) (by decide +kernel)
set_option maxRecDepth 20000 in
theorem gX4_winning_X2_isFrozen : GoodIn wsX4_winning (va_wsS RX4 37 yX2_isFrozen wsX2_isFrozen) := goodIn_app (goodIn_of _ (by decide +kernel)) ggX4_winning_X2_isFrozen
set_option maxRecDepth 20000 in
theorem ggX4_winning_X2_afterMinute : GoodIn wsX4_winning wsX2_afterMinute := goodIn_r _ [37, 11, 38, 39, 40, 41, 42, 43, 44, 45, 46, 47, 48, 4, 49, 50, 19, 20, 21, 54, 55, 56, 57, 58, 59, 60, 61] (by decide +kernel) (by decide +kernel)
set_option maxRecDepth 20000 in
theorem gX4_winning_X2_afterMinute : GoodIn wsX4_winning (wsV RX4 40 RX2 yX2_afterMinute wsX2_afterMinute) := goodIn_app (goodIn_of _ (by decide +kernel)) ggX4_winning_X2_afterMinute
set_option maxRecDepth 20000 in
theorem ggX4_winning_X4_winning : GoodIn wsX4_winning wsX4_winning := goodIn_r _ [0, 1, 2, 3, 4, 5, 6, 7, 8, 9, 10, 11, 12, 13, 14, 15, 16, 17, 18, 19, 20, 21, 22, 23, 24, 25, 26, 27, 28, 29, 30, 31, 32, 33, 34, 35, 36, 37, 38, 39, 40, 41, 42, 43, 44, 45, 46, 47, 48, 49, 50, 51, 52, 53, 54, 55, 56, 57, 58, 59, 60, 61] (by decide +kernel) (by decide +kernel)
set_option maxRecDepth 20000 in
theorem gX4_winning_X4_winning : GoodIn wsX4_winning (va_wsS RX4 61 yX4_winning wsX4_winning) := goodIn_app (goodIn_of _ (by decide +kernel)) ggX4_winning_X4_winning
theorem dX4_winning_0 : decode cX4_winning 0 = .ok (.iload 5, 2) := by decide +kernel
theorem dX4_winning_2 : decode cX4_winning 2 = .ok (.ifCond .gt 9, 3) := by decide +kernel
theorem dX4_winning_5 : decode cX4_winning 5 = .ok (.aload_n 0, 1) := by decide +kernel
theorem dX4_winning_6 : decode cX4_winning 6 = .ok (.iload_n 1, 1) := by decide +kernel
theorem dX4_winning_7 : decode cX4_winning 7 = .ok (.invokevirtual 24, 3) := by decide +kernel
theorem dX4_winning_10 : decode cX4_winning 10 = .ok (.ireturn, 1) := by decide +kernel
theorem dX4_winning_11 : decode cX4_winning 11 = .ok (.iconst 0, 1) := by decide +kernel
theorem dX4_winning_12 : decode cX4_winning 12 = .ok (.istore 6, 2) := by decide +kernel
theorem dX4_winning_14 : decode cX4_winning 14 = .ok (.iconst 0, 1) := by decide +kernel
theorem dX4_winning_15 : decode cX4_winning 15 = .ok (.istore 7, 2) := by decide +kernel
theorem dX4_winning_17 : decode cX4_winning 17 = .ok (.iload 7, 2) := by decide +kernel
theorem dX4_winning_19 : decode cX4_winning 19 = .ok (.aload_n 0, 1) := by decide +kernel
theorem dX4_winning_20 : decode cX4_winning 20 = .ok (.getfield 34, 3) := by decide +kernel
theorem dX4_winning_23 : decode cX4_winning 23 = .ok (.if_icmp .ge 79, 3) := by decide +kernel
theorem dX4_winning_26 : decode cX4_winning 26 = .ok (.aload_n 0, 1) := by decide +kernel
theorem dX4_winning_27 : decode cX4_winning 27 = .ok (.iload 7, 2) := by decide +kernel
theorem dX4_winning_29 : decode cX4_winning 29 = .ok (.invokevirtual 65, 3) := by decide +kernel
theorem dX4_winning_32 : decode cX4_winning 32 = .ok (.iload 4, 2) := by decide +kernel
theorem dX4_winning_34 : decode cX4_winning 34 = .ok (.if_icmp .ne 62, 3) := by decide +kernel
theorem dX4_winning_37 : decode cX4_winning 37 = .ok (.iload 7, 2) := by decide +kernel
theorem dX4_winning_39 : decode cX4_winning 39 = .ok (.iload_n 1, 1) := by decide +kernel
theorem dX4_winning_40 : decode cX4_winning 40 = .ok (.invokestatic 37, 3) := by decide +kernel
theorem dX4_winning_43 : decode cX4_winning 43 = .ok (.ifCond .eq 6, 3) := by decide +kernel
theorem dX4_winning_46 : decode cX4_winning 46 = .ok (.goto 50, 3) := by decide +kernel
theorem dX4_winning_49 : decode cX4_winning 49 = .ok (.iconst 1, 1) := by decide +kernel
theorem dX4_winning_50 : decode cX4_winning 50 = .ok (.istore 6, 2) := by decide +kernel
theorem dX4_winning_52 : decode cX4_winning 52 = .ok (.aload_n 0, 1) := by decide +kernel
theorem dX4_winning_53 : decode cX4_winning 53 = .ok (.aload_n 0, 1) := by decide +kernel
theorem dX4_winning_54 : decode cX4_winning 54 = .ok (.iload_n 1, 1) := by decide +kernel
theorem dX4_winning_55 : decode cX4_winning 55 = .ok (.iload 7, 2) := by decide +kernel
theorem dX4_winning_57 : decode cX4_winning 57 = .ok (.iload_n 3, 1) := by decide +kernel
theorem dX4_winning_58 : decode cX4_winning 58 = .ok (.invokevirtual 40, 3) := by decide +kernel
theorem dX4_winning_61 : decode cX4_winning 61 = .ok (.iload 7, 2) := by decide +kernel
theorem dX4_winning_63 : decode cX4_winning 63 = .ok (.iload_n 3, 1) := by decide +kernel
theorem dX4_winning_64 : decode cX4_winning 64 = .ok (.iconst 1, 1) := by decide +kernel
theorem dX4_winning_65 : decode cX4_winning 65 = .ok (.iload 4, 2) := by decide +kernel
theorem dX4_winning_67 : decode cX4_winning 67 = .ok (.isub, 1) := by decide +kernel
theorem dX4_winning_68 : decode cX4_winning 68 = .ok (.iload 5, 2) := by decide +kernel
theorem dX4_winning_70 : decode cX4_winning 70 = .ok (.iconst 1, 1) := by decide +kernel
theorem dX4_winning_71 : decode cX4_winning 71 = .ok (.isub, 1) := by decide +kernel
theorem dX4_winning_72 : decode cX4_winning 72 = .ok (.invokestatic 61, 3) := by decide +kernel
theorem dX4_winning_75 : decode cX4_winning 75 = .ok (.istore 8, 2) := by decide +kernel
theorem dX4_winning_77 : decode cX4_winning 77 = .ok (.iload 8, 2) := by decide +kernel
theorem dX4_winning_79 : decode cX4_winning 79 = .ok (.iload 4, 2) := by decide +kernel
theorem dX4_winning_81 : decode cX4_winning 81 = .ok (.iconst 1, 1) := by decide +kernel
theorem dX4_winning_82 : decode cX4_winning 82 = .ok (.if_icmp .ne 7, 3) := by decide +kernel
theorem dX4_winning_85 : decode cX4_winning 85 = .ok (.iconst 1, 1) := by decide +kernel
theorem dX4_winning_86 : decode cX4_winning 86 = .ok (.goto 4, 3) := by decide +kernel
theorem dX4_winning_89 : decode cX4_winning 89 = .ok (.iconst 0, 1) := by decide +kernel
theorem dX4_winning_90 : decode cX4_winning 90 = .ok (.if_icmp .ne 6, 3) := by decide +kernel
theorem dX4_winning_93 : decode cX4_winning 93 = .ok (.iload 8, 2) := by decide +kernel
theorem dX4_winning_95 : decode cX4_winning 95 = .ok (.ireturn, 1) := by decide +kernel
theorem dX4_winning_96 : decode cX4_winning 96 = .ok (.iinc 7 1, 3) := by decide +kernel
theorem dX4_winning_99 : decode cX4_winning 99 = .ok (.goto (-82), 3) := by decide +kernel
theorem dX4_winning_102 : decode cX4_winning 102 = .ok (.iload 6, 2) := by decide +kernel
theorem dX4_winning_104 : decode cX4_winning 104 = .ok (.ifCond .eq 14, 3) := by decide +kernel
theorem dX4_winning_107 : decode cX4_winning 107 = .ok (.iload 4, 2) := by decide +kernel
theorem dX4_winning_109 : decode cX4_winning 109 = .ok (.ifCond .ne 7, 3) := by decide +kernel
theorem dX4_winning_112 : decode cX4_winning 112 = .ok (.iconst 1, 1) := by decide +kernel
theorem dX4_winning_113 : decode cX4_winning 113 = .ok (.goto 4, 3) := by decide +kernel
theorem dX4_winning_116 : decode cX4_winning 116 = .ok (.iconst 0, 1) := by decide +kernel
theorem dX4_winning_117 : decode cX4_winning 117 = .ok (.ireturn, 1) := by decide +kernel
theorem dX4_winning_118 : decode cX4_winning 118 = .ok (.aload_n 0, 1) := by decide +kernel
theorem dX4_winning_119 : decode cX4_winning 119 = .ok (.aload_n 0, 1) := by decide +kernel
theorem dX4_winning_120 : decode cX4_winning 120 = .ok (.iload_n 1, 1) := by decide +kernel
theorem dX4_winning_121 : decode cX4_winning 121 = .ok (.iload_n 2, 1) := by decide +kernel
theorem dX4_winning_122 : decode cX4_winning 122 = .ok (.iload_n 3, 1) := by decide +kernel
theorem dX4_winning_123 : decode cX4_winning 123 = .ok (.invokevirtual 40, 3) := by decide +kernel
theorem dX4_winning_126 : decode cX4_winning 126 = .ok (.iload_n 2, 1) := by decide +kernel
theorem dX4_winning_127 : decode cX4_winning 127 = .ok (.iload_n 3, 1) := by decide +kernel
theorem dX4_winning_128 : decode cX4_winning 128 = .ok (.iconst 1, 1) := by decide +kernel
theorem dX4_winning_129 : decode cX4_winning 129 = .ok (.iload 4, 2) := by decide +kernel
theorem dX4_winning_131 : decode cX4_winning 131 = .ok (.isub, 1) := by decide +kernel
theorem dX4_winning_132 : decode cX4_winning 132 = .ok (.iload 5, 2) := by decide +kernel
theorem dX4_winning_134 : decode cX4_winning 134 = .ok (.iconst 1, 1) := by decide +kernel
theorem dX4_winning_135 : decode cX4_winning 135 = .ok (.isub, 1) := by decide +kernel
theorem dX4_winning_136 : decode cX4_winning 136 = .ok (.invokestatic 61, 3) := by decide +kernel
theorem dX4_winning_139 : decode cX4_winning 139 = .ok (.ireturn, 1) := by decide +kernel
set_option maxRecDepth 20000 in
theorem ggX4_fitting_X4_fittingFrom : GoodIn wsX4_fitting wsX4_fittingFrom := goodIn_r _ [4, 5, 6, 7, 8, 9, 10, 11, 12, 13, 14, 15, 16, 17, 18, 19, 20, 21, 22, 23, 24, 25, 26, 27, 28, 29, 30, 31, 32, 33, 34, 35, 36, 37, 38, 39, 40, 41, 42, 1, 2, 3, 43, 44, 45, 46, 47, 48, 49, 50, 51, 52, 53] (by decide +kernel) (by decide +kernel)
set_option maxRecDepth 20000 in
theorem gX4_fitting_X4_fittingFrom : GoodIn wsX4_fitting (va_wsS RX4 71 yX4_fittingFrom wsX4_fittingFrom) := goodIn_app (goodIn_of _ (by decide +kernel)) ggX4_fitting_X4_fittingFrom
theorem dX4_fitting_0 : decode cX4_fitting 0 = .ok (.aload_n 0, 1) := by decide +kernel
theorem dX4_fitting_1 : decode cX4_fitting 1 = .ok (.aload_n 1, 1) := by decide +kernel
theorem dX4_fitting_2 : decode cX4_fitting 2 = .ok (.aload_n 0, 1) := by decide +kernel
theorem dX4_fitting_3 : decode cX4_fitting 3 = .ok (.getfield 68, 3) := by decide +kernel
theorem dX4_fitting_6 : decode cX4_fitting 6 = .ok (.iconst 0, 1) := by decide +kernel
theorem dX4_fitting_7 : decode cX4_fitting 7 = .ok (.iload_n 2, 1) := by decide +kernel
theorem dX4_fitting_8 : decode cX4_fitting 8 = .ok (.invokestatic 71, 3) := by decide +kernel
theorem dX4_fitting_11 : decode cX4_fitting 11 = .ok (.ireturn, 1) := by decide +kernel
set_option maxRecDepth 20000 in
theorem ggX4_fittingFrom_X2_frozen : GoodIn wsX4_fittingFrom wsX2_frozen := goodIn_r _ [5, 6, 7, 8, 4, 9, 10, 11, 12, 42, 43, 44, 45, 46, 47, 48, 49] (by decide +kernel) (by decide +kernel)
set_option maxRecDepth 20000 in
theorem gX4_fittingFrom_X2_frozen : GoodIn wsX4_fittingFrom (wsV RX4 75 RX2 yX2_frozen wsX2_frozen) := goodIn_app (goodIn_of _ (by decide +kernel)) ggX4_fittingFrom_X2_frozen
set_option maxRecDepth 20000 in
theorem ggX4_fittingFrom_X5_allowsBehind : GoodIn wsX4_fittingFrom wsX5_allowsBehind := goodIn_r _ [17, 18, 19, 20, 50, 51, 52] (by decide +kernel) (by decide +kernel)
set_option maxRecDepth 20000 in
theorem gX4_fittingFrom_X5_allowsBehind : GoodIn wsX4_fittingFrom (wsV RX4 78 RX5 yX5_allowsBehind wsX5_allowsBehind) := goodIn_app (goodIn_of _ (by decide +kernel)) ggX4_fittingFrom_X5_allowsBehind
set_option maxRecDepth 20000 in
theorem ggX4_fittingFrom_X2_isFrozen : GoodIn wsX4_fittingFrom wsX2_isFrozen := goodIn_r _ [9, 10, 11, 4, 12] (by decide +kernel) (by decide +kernel)
set_option maxRecDepth 20000 in
theorem gX4_fittingFrom_X2_isFrozen : GoodIn wsX4_fittingFrom (va_wsS RX4 37 yX2_isFrozen wsX2_isFrozen) := goodIn_app (goodIn_of _ (by decide +kernel)) ggX4_fittingFrom_X2_isFrozen
set_option maxRecDepth 20000 in
theorem ggX4_fittingFrom_X2_afterMinute : GoodIn wsX4_fittingFrom wsX2_afterMinute := goodIn_r _ [25, 6, 26, 27, 28, 29, 30, 31, 32, 33, 34, 35, 36, 4, 37, 38, 10, 11, 12, 42, 43, 44, 45, 46, 47, 48, 49] (by decide +kernel) (by decide +kernel)
set_option maxRecDepth 20000 in
theorem gX4_fittingFrom_X2_afterMinute : GoodIn wsX4_fittingFrom (wsV RX4 40 RX2 yX2_afterMinute wsX2_afterMinute) := goodIn_app (goodIn_of _ (by decide +kernel)) ggX4_fittingFrom_X2_afterMinute
set_option maxRecDepth 20000 in
theorem ggX4_fittingFrom_X4_fittingFrom : GoodIn wsX4_fittingFrom wsX4_fittingFrom := goodIn_r _ [0, 1, 2, 3, 4, 5, 6, 7, 8, 9, 10, 11, 12, 13, 14, 15, 16, 17, 18, 19, 20, 21, 22, 23, 24, 25, 26, 27, 28, 29, 30, 31, 32, 33, 34, 35, 36, 37, 38, 39, 40, 41, 42, 43, 44, 45, 46, 47, 48, 49, 50, 51, 52] (by decide +kernel) (by decide +kernel)
set_option maxRecDepth 20000 in
theorem gX4_fittingFrom_X4_fittingFrom : GoodIn wsX4_fittingFrom (va_wsS RX4 71 yX4_fittingFrom wsX4_fittingFrom) := goodIn_app (goodIn_of _ (by decide +kernel)) ggX4_fittingFrom_X4_fittingFrom
theorem dX4_fittingFrom_0 : decode cX4_fittingFrom 0 = .ok (.aload_n 1, 1) := by decide +kernel
theorem dX4_fittingFrom_1 : decode cX4_fittingFrom 1 = .ok (.iload_n 3, 1) := by decide +kernel
theorem dX4_fittingFrom_2 : decode cX4_fittingFrom 2 = .ok (.aload_n 0, 1) := by decide +kernel
theorem dX4_fittingFrom_3 : decode cX4_fittingFrom 3 = .ok (.iload_n 2, 1) := by decide +kernel
theorem dX4_fittingFrom_4 : decode cX4_fittingFrom 4 = .ok (.invokevirtual 75, 3) := by decide +kernel
theorem dX4_fittingFrom_7 : decode cX4_fittingFrom 7 = .ok (.invokevirtual 78, 3) := by decide +kernel
theorem dX4_fittingFrom_10 : decode cX4_fittingFrom 10 = .ok (.ifCond .ne 5, 3) := by decide +kernel
theorem dX4_fittingFrom_13 : decode cX4_fittingFrom 13 = .ok (.iconst 0, 1) := by decide +kernel
theorem dX4_fittingFrom_14 : decode cX4_fittingFrom 14 = .ok (.ireturn, 1) := by decide +kernel
theorem dX4_fittingFrom_15 : decode cX4_fittingFrom 15 = .ok (.iload_n 3, 1) := by decide +kernel
theorem dX4_fittingFrom_16 : decode cX4_fittingFrom 16 = .ok (.iload 4, 2) := by decide +kernel
theorem dX4_fittingFrom_18 : decode cX4_fittingFrom 18 = .ok (.if_icmp .lt 5, 3) := by decide +kernel
theorem dX4_fittingFrom_21 : decode cX4_fittingFrom 21 = .ok (.iconst 1, 1) := by decide +kernel
theorem dX4_fittingFrom_22 : decode cX4_fittingFrom 22 = .ok (.ireturn, 1) := by decide +kernel
theorem dX4_fittingFrom_23 : decode cX4_fittingFrom 23 = .ok (.iconst 0, 1) := by decide +kernel
theorem dX4_fittingFrom_24 : decode cX4_fittingFrom 24 = .ok (.istore 5, 2) := by decide +kernel
theorem dX4_fittingFrom_26 : decode cX4_fittingFrom 26 = .ok (.iconst 0, 1) := by decide +kernel
theorem dX4_fittingFrom_27 : decode cX4_fittingFrom 27 = .ok (.istore 6, 2) := by decide +kernel
theorem dX4_fittingFrom_29 : decode cX4_fittingFrom 29 = .ok (.iload 6, 2) := by decide +kernel
theorem dX4_fittingFrom_31 : decode cX4_fittingFrom 31 = .ok (.aload_n 0, 1) := by decide +kernel
theorem dX4_fittingFrom_32 : decode cX4_fittingFrom 32 = .ok (.getfield 34, 3) := by decide +kernel
theorem dX4_fittingFrom_35 : decode cX4_fittingFrom 35 = .ok (.if_icmp .ge 44, 3) := by decide +kernel
theorem dX4_fittingFrom_38 : decode cX4_fittingFrom 38 = .ok (.iload 6, 2) := by decide +kernel
theorem dX4_fittingFrom_40 : decode cX4_fittingFrom 40 = .ok (.iload_n 2, 1) := by decide +kernel
theorem dX4_fittingFrom_41 : decode cX4_fittingFrom 41 = .ok (.invokestatic 37, 3) := by decide +kernel
theorem dX4_fittingFrom_44 : decode cX4_fittingFrom 44 = .ok (.ifCond .ne 29, 3) := by decide +kernel
theorem dX4_fittingFrom_47 : decode cX4_fittingFrom 47 = .ok (.iload 5, 2) := by decide +kernel
theorem dX4_fittingFrom_49 : decode cX4_fittingFrom 49 = .ok (.aload_n 0, 1) := by decide +kernel
theorem dX4_fittingFrom_50 : decode cX4_fittingFrom 50 = .ok (.aload_n 1, 1) := by decide +kernel
theorem dX4_fittingFrom_51 : decode cX4_fittingFrom 51 = .ok (.aload_n 0, 1) := by decide +kernel
theorem dX4_fittingFrom_52 : decode cX4_fittingFrom 52 = .ok (.iload_n 2, 1) := by decide +kernel
theorem dX4_fittingFrom_53 : decode cX4_fittingFrom 53 = .ok (.iload 6, 2) := by decide +kernel
theorem dX4_fittingFrom_55 : decode cX4_fittingFrom 55 = .ok (.aload_n 0, 1) := by decide +kernel
theorem dX4_fittingFrom_56 : decode cX4_fittingFrom 56 = .ok (.getfield 83, 3) := by decide +kernel
theorem dX4_fittingFrom_59 : decode cX4_fittingFrom 59 = .ok (.invokevirtual 40, 3) := by decide +kernel
theorem dX4_fittingFrom_62 : decode cX4_fittingFrom 62 = .ok (.iload_n 3, 1) := by decide +kernel
theorem dX4_fittingFrom_63 : decode cX4_fittingFrom 63 = .ok (.iconst 1, 1) := by decide +kernel
theorem dX4_fittingFrom_64 : decode cX4_fittingFrom 64 = .ok (.iadd, 1) := by decide +kernel
theorem dX4_fittingFrom_65 : decode cX4_fittingFrom 65 = .ok (.iload 4, 2) := by decide +kernel
theorem dX4_fittingFrom_67 : decode cX4_fittingFrom 67 = .ok (.invokestatic 71, 3) := by decide +kernel
theorem dX4_fittingFrom_70 : decode cX4_fittingFrom 70 = .ok (.iadd, 1) := by decide +kernel
theorem dX4_fittingFrom_71 : decode cX4_fittingFrom 71 = .ok (.istore 5, 2) := by decide +kernel
theorem dX4_fittingFrom_73 : decode cX4_fittingFrom 73 = .ok (.iinc 6 1, 3) := by decide +kernel
theorem dX4_fittingFrom_76 : decode cX4_fittingFrom 76 = .ok (.goto (-47), 3) := by decide +kernel
theorem dX4_fittingFrom_79 : decode cX4_fittingFrom 79 = .ok (.iload 5, 2) := by decide +kernel
theorem dX4_fittingFrom_81 : decode cX4_fittingFrom 81 = .ok (.ireturn, 1) := by decide +kernel
