theorem dX8_power_12 : decode cX8_power 12 = .ok (.istore_n 2, 1) := by decide +kernel
theorem dX8_power_13 : decode cX8_power 13 = .ok (.iinc 3 1, 3) := by decide +kernel
theorem dX8_power_16 : decode cX8_power 16 = .ok (.goto (-12), 3) := by decide +kernel
theorem dX8_power_19 : decode cX8_power 19 = .ok (.iload_n 2, 1) := by decide +kernel
theorem dX8_power_20 : decode cX8_power 20 = .ok (.ireturn, 1) := by decide +kernel
set_option maxRecDepth 20000 in
theorem ggX8_isPlan_X8_power : GoodIn wsX8_isPlan wsX8_power := goodIn_r _ [7] (by decide +kernel) (by decide +kernel)
set_option maxRecDepth 20000 in
theorem gX8_isPlan_X8_power : GoodIn wsX8_isPlan (va_wsS RX8 189 yX8_power wsX8_power) := goodIn_app (goodIn_of _ (by decide +kernel)) ggX8_isPlan_X8_power
set_option maxRecDepth 20000 in
theorem ggX8_isPlan_X8_goes : GoodIn wsX8_isPlan wsX8_goes := goodIn_r _ [11, 2, 1, 12, 13, 14, 6, 15, 16, 17, 18, 19, 20, 21, 22, 23, 24, 25, 26, 27, 28, 29, 30, 31, 32, 33, 34, 35, 36, 37, 38, 39, 40, 41, 42, 43, 44, 45, 46, 47, 48, 49, 50, 51, 52] (by decide +kernel) (by decide +kernel)
set_option maxRecDepth 20000 in
theorem gX8_isPlan_X8_goes : GoodIn wsX8_isPlan (wsV RX8 192 RX8 yX8_goes wsX8_goes) := goodIn_app (goodIn_of _ (by decide +kernel)) ggX8_isPlan_X8_goes
theorem dX8_isPlan_0 : decode cX8_isPlan 0 = .ok (.aload_n 0, 1) := by decide +kernel
theorem dX8_isPlan_1 : decode cX8_isPlan 1 = .ok (.getfield 145, 3) := by decide +kernel
theorem dX8_isPlan_4 : decode cX8_isPlan 4 = .ok (.iload_n 2, 1) := by decide +kernel
theorem dX8_isPlan_5 : decode cX8_isPlan 5 = .ok (.invokestatic 189, 3) := by decide +kernel
theorem dX8_isPlan_8 : decode cX8_isPlan 8 = .ok (.istore 5, 2) := by decide +kernel
theorem dX8_isPlan_10 : decode cX8_isPlan 10 = .ok (.iconst 0, 1) := by decide +kernel
theorem dX8_isPlan_11 : decode cX8_isPlan 11 = .ok (.istore 6, 2) := by decide +kernel
theorem dX8_isPlan_13 : decode cX8_isPlan 13 = .ok (.iload 6, 2) := by decide +kernel
theorem dX8_isPlan_15 : decode cX8_isPlan 15 = .ok (.iload_n 2, 1) := by decide +kernel
theorem dX8_isPlan_16 : decode cX8_isPlan 16 = .ok (.if_icmp .ge 75, 3) := by decide +kernel
theorem dX8_isPlan_19 : decode cX8_isPlan 19 = .ok (.iload 5, 2) := by decide +kernel
theorem dX8_isPlan_21 : decode cX8_isPlan 21 = .ok (.aload_n 0, 1) := by decide +kernel
theorem dX8_isPlan_22 : decode cX8_isPlan 22 = .ok (.getfield 145, 3) := by decide +kernel
theorem dX8_isPlan_25 : decode cX8_isPlan 25 = .ok (.idiv, 1) := by decide +kernel
theorem dX8_isPlan_26 : decode cX8_isPlan 26 = .ok (.istore 5, 2) := by decide +kernel
theorem dX8_isPlan_28 : decode cX8_isPlan 28 = .ok (.iload_n 1, 1) := by decide +kernel
theorem dX8_isPlan_29 : decode cX8_isPlan 29 = .ok (.iload 5, 2) := by decide +kernel
theorem dX8_isPlan_31 : decode cX8_isPlan 31 = .ok (.idiv, 1) := by decide +kernel
theorem dX8_isPlan_32 : decode cX8_isPlan 32 = .ok (.aload_n 0, 1) := by decide +kernel
theorem dX8_isPlan_33 : decode cX8_isPlan 33 = .ok (.getfield 145, 3) := by decide +kernel
theorem dX8_isPlan_36 : decode cX8_isPlan 36 = .ok (.irem, 1) := by decide +kernel
theorem dX8_isPlan_37 : decode cX8_isPlan 37 = .ok (.istore 7, 2) := by decide +kernel
theorem dX8_isPlan_39 : decode cX8_isPlan 39 = .ok (.aload_n 0, 1) := by decide +kernel
theorem dX8_isPlan_40 : decode cX8_isPlan 40 = .ok (.getfield 41, 3) := by decide +kernel
theorem dX8_isPlan_43 : decode cX8_isPlan 43 = .ok (.bipush 7, 2) := by decide +kernel
theorem dX8_isPlan_45 : decode cX8_isPlan 45 = .ok (.iload 6, 2) := by decide +kernel
theorem dX8_isPlan_47 : decode cX8_isPlan 47 = .ok (.imul, 1) := by decide +kernel
theorem dX8_isPlan_48 : decode cX8_isPlan 48 = .ok (.iload 7, 2) := by decide +kernel
theorem dX8_isPlan_50 : decode cX8_isPlan 50 = .ok (.iadd, 1) := by decide +kernel
theorem dX8_isPlan_51 : decode cX8_isPlan 51 = .ok (.iaload, 1) := by decide +kernel
theorem dX8_isPlan_52 : decode cX8_isPlan 52 = .ok (.ifCond .eq 9, 3) := by decide +kernel
theorem dX8_isPlan_55 : decode cX8_isPlan 55 = .ok (.iload 7, 2) := by decide +kernel
theorem dX8_isPlan_57 : decode cX8_isPlan 57 = .ok (.iload_n 3, 1) := by decide +kernel
theorem dX8_isPlan_58 : decode cX8_isPlan 58 = .ok (.if_icmp .ne 5, 3) := by decide +kernel
theorem dX8_isPlan_61 : decode cX8_isPlan 61 = .ok (.iconst 0, 1) := by decide +kernel
theorem dX8_isPlan_62 : decode cX8_isPlan 62 = .ok (.ireturn, 1) := by decide +kernel
theorem dX8_isPlan_63 : decode cX8_isPlan 63 = .ok (.aload_n 0, 1) := by decide +kernel
theorem dX8_isPlan_64 : decode cX8_isPlan 64 = .ok (.getfield 44, 3) := by decide +kernel
theorem dX8_isPlan_67 : decode cX8_isPlan 67 = .ok (.iload 6, 2) := by decide +kernel
theorem dX8_isPlan_69 : decode cX8_isPlan 69 = .ok (.iload 7, 2) := by decide +kernel
theorem dX8_isPlan_71 : decode cX8_isPlan 71 = .ok (.iastore, 1) := by decide +kernel
theorem dX8_isPlan_72 : decode cX8_isPlan 72 = .ok (.aload_n 0, 1) := by decide +kernel
theorem dX8_isPlan_73 : decode cX8_isPlan 73 = .ok (.bipush 7, 2) := by decide +kernel
theorem dX8_isPlan_75 : decode cX8_isPlan 75 = .ok (.iload 6, 2) := by decide +kernel
theorem dX8_isPlan_77 : decode cX8_isPlan 77 = .ok (.imul, 1) := by decide +kernel
theorem dX8_isPlan_78 : decode cX8_isPlan 78 = .ok (.iload 7, 2) := by decide +kernel
theorem dX8_isPlan_80 : decode cX8_isPlan 80 = .ok (.iload 4, 2) := by decide +kernel
theorem dX8_isPlan_82 : decode cX8_isPlan 82 = .ok (.invokevirtual 192, 3) := by decide +kernel
theorem dX8_isPlan_85 : decode cX8_isPlan 85 = .ok (.iinc 6 1, 3) := by decide +kernel
theorem dX8_isPlan_88 : decode cX8_isPlan 88 = .ok (.goto (-75), 3) := by decide +kernel
theorem dX8_isPlan_91 : decode cX8_isPlan 91 = .ok (.iconst 1, 1) := by decide +kernel
theorem dX8_isPlan_92 : decode cX8_isPlan 92 = .ok (.ireturn, 1) := by decide +kernel
set_option maxRecDepth 20000 in
theorem ggX8_plans_X8_power : GoodIn wsX8_plans wsX8_power := goodIn_r _ [5] (by decide +kernel) (by decide +kernel)
set_option maxRecDepth 20000 in
theorem gX8_plans_X8_power : GoodIn wsX8_plans (va_wsS RX8 189 yX8_power wsX8_power) := goodIn_app (goodIn_of _ (by decide +kernel)) ggX8_plans_X8_power
theorem dX8_plans_0 : decode cX8_plans 0 = .ok (.aload_n 0, 1) := by decide +kernel
theorem dX8_plans_1 : decode cX8_plans 1 = .ok (.getfield 145, 3) := by decide +kernel
theorem dX8_plans_4 : decode cX8_plans 4 = .ok (.ifCond .ne 11, 3) := by decide +kernel
theorem dX8_plans_7 : decode cX8_plans 7 = .ok (.iload_n 1, 1) := by decide +kernel
theorem dX8_plans_8 : decode cX8_plans 8 = .ok (.ifCond .le 7, 3) := by decide +kernel
theorem dX8_plans_11 : decode cX8_plans 11 = .ok (.iconst 0, 1) := by decide +kernel
theorem dX8_plans_12 : decode cX8_plans 12 = .ok (.goto 11, 3) := by decide +kernel
theorem dX8_plans_15 : decode cX8_plans 15 = .ok (.aload_n 0, 1) := by decide +kernel
theorem dX8_plans_16 : decode cX8_plans 16 = .ok (.getfield 145, 3) := by decide +kernel
theorem dX8_plans_19 : decode cX8_plans 19 = .ok (.iload_n 1, 1) := by decide +kernel
theorem dX8_plans_20 : decode cX8_plans 20 = .ok (.invokestatic 189, 3) := by decide +kernel
theorem dX8_plans_23 : decode cX8_plans 23 = .ok (.ireturn, 1) := by decide +kernel
theorem dX8_keepsPicks_0 : decode cX8_keepsPicks 0 = .ok (.iconst 0, 1) := by decide +kernel
theorem dX8_keepsPicks_1 : decode cX8_keepsPicks 1 = .ok (.istore_n 2, 1) := by decide +kernel
theorem dX8_keepsPicks_2 : decode cX8_keepsPicks 2 = .ok (.iload_n 2, 1) := by decide +kernel
theorem dX8_keepsPicks_3 : decode cX8_keepsPicks 3 = .ok (.iload_n 1, 1) := by decide +kernel
theorem dX8_keepsPicks_4 : decode cX8_keepsPicks 4 = .ok (.if_icmp .ge 21, 3) := by decide +kernel
theorem dX8_keepsPicks_7 : decode cX8_keepsPicks 7 = .ok (.aload_n 0, 1) := by decide +kernel
theorem dX8_keepsPicks_8 : decode cX8_keepsPicks 8 = .ok (.getfield 50, 3) := by decide +kernel
theorem dX8_keepsPicks_11 : decode cX8_keepsPicks 11 = .ok (.iload_n 2, 1) := by decide +kernel
theorem dX8_keepsPicks_12 : decode cX8_keepsPicks 12 = .ok (.aload_n 0, 1) := by decide +kernel
theorem dX8_keepsPicks_13 : decode cX8_keepsPicks 13 = .ok (.getfield 44, 3) := by decide +kernel
theorem dX8_keepsPicks_16 : decode cX8_keepsPicks 16 = .ok (.iload_n 2, 1) := by decide +kernel
theorem dX8_keepsPicks_17 : decode cX8_keepsPicks 17 = .ok (.iaload, 1) := by decide +kernel
theorem dX8_keepsPicks_18 : decode cX8_keepsPicks 18 = .ok (.iastore, 1) := by decide +kernel
theorem dX8_keepsPicks_19 : decode cX8_keepsPicks 19 = .ok (.iinc 2 1, 3) := by decide +kernel
theorem dX8_keepsPicks_22 : decode cX8_keepsPicks 22 = .ok (.goto (-20), 3) := by decide +kernel
theorem dX8_keepsPicks_25 : decode cX8_keepsPicks 25 = .ok (.return_, 1) := by decide +kernel
set_option maxRecDepth 20000 in
theorem ggX8_carriedBy_X8_setsBoard : GoodIn wsX8_carriedBy wsX8_setsBoard := goodIn_r _ [6, 7, 1, 41, 42, 43, 44, 45, 46, 47, 48, 49, 50, 51, 52, 53, 54, 55, 56, 57, 58, 59, 60, 61, 62, 63, 64, 65, 66, 67, 68, 69, 70, 71, 72, 73, 74, 75] (by decide +kernel) (by decide +kernel)
set_option maxRecDepth 20000 in
theorem gX8_carriedBy_X8_setsBoard : GoodIn wsX8_carriedBy (wsV RX8 183 RX8 yX8_setsBoard wsX8_setsBoard) := goodIn_app (goodIn_of _ (by decide +kernel)) ggX8_carriedBy_X8_setsBoard
set_option maxRecDepth 20000 in
theorem ggX8_carriedBy_X8_plans : GoodIn wsX8_carriedBy wsX8_plans := goodIn_r _ [11, 12, 13, 14, 5, 15, 41, 42, 43, 44, 45, 46, 47, 48, 49, 50, 51, 52, 53, 54, 55, 56, 57, 58, 59, 60, 61, 62, 63, 64, 65, 66, 67, 68, 69, 70, 71, 72, 73, 74, 75] (by decide +kernel) (by decide +kernel)
set_option maxRecDepth 20000 in
theorem gX8_carriedBy_X8_plans : GoodIn wsX8_carriedBy (wsV RX8 196 RX8 yX8_plans wsX8_plans) := goodIn_app (goodIn_of _ (by decide +kernel)) ggX8_carriedBy_X8_plans
set_option maxRecDepth 20000 in
theorem ggX8_carriedBy_X8_isPlan : GoodIn wsX8_carriedBy wsX8_isPlan := goodIn_r _ [19, 12, 7, 20, 13, 14, 5, 15, 21, 22, 23, 24, 25, 26, 27, 28, 29, 30, 41, 42, 43, 44, 45, 46, 47, 48, 49, 50, 51, 52, 53, 54, 55, 56, 57, 58, 59, 60, 61, 62, 63, 64, 65, 66, 67, 68, 69, 70, 71, 72, 73, 74, 75] (by decide +kernel) (by decide +kernel)
set_option maxRecDepth 20000 in
theorem gX8_carriedBy_X8_isPlan : GoodIn wsX8_carriedBy (wsV RX8 199 RX8 yX8_isPlan wsX8_isPlan) := goodIn_app (goodIn_of _ (by decide +kernel)) ggX8_carriedBy_X8_isPlan
set_option maxRecDepth 20000 in
theorem ggX8_carriedBy_X8_lead : GoodIn wsX8_carriedBy wsX8_lead := goodIn_r _ [34, 12, 7, 35, 41, 42, 43, 44, 45, 46, 47, 48, 49, 50, 51, 52, 53, 54, 55, 56, 57, 58, 59, 60, 61, 62, 63, 64, 65, 66, 67, 68, 69, 70, 71, 72, 73, 74, 75] (by decide +kernel) (by decide +kernel)
set_option maxRecDepth 20000 in
theorem gX8_carriedBy_X8_lead : GoodIn wsX8_carriedBy (wsV RX8 186 RX8 yX8_lead wsX8_lead) := goodIn_app (goodIn_of _ (by decide +kernel)) ggX8_carriedBy_X8_lead
set_option maxRecDepth 20000 in
theorem ggX8_carriedBy_X8_keepsPicks : GoodIn wsX8_carriedBy wsX8_keepsPicks := goodIn_r _ [39, 40, 20, 41, 42, 43, 44, 45, 46, 47, 48, 49, 50, 51, 52, 53, 54, 55, 56, 57, 58, 59, 60, 61, 62, 63, 64, 65, 66, 67, 68, 69, 70, 71, 72, 73, 74, 75] (by decide +kernel) (by decide +kernel)
set_option maxRecDepth 20000 in
theorem gX8_carriedBy_X8_keepsPicks : GoodIn wsX8_carriedBy (wsV RX8 203 RX8 yX8_keepsPicks wsX8_keepsPicks) := goodIn_app (goodIn_of _ (by decide +kernel)) ggX8_carriedBy_X8_keepsPicks
theorem dX8_carriedBy_0 : decode cX8_carriedBy 0 = .ok (.aload_n 0, 1) := by decide +kernel
theorem dX8_carriedBy_1 : decode cX8_carriedBy 1 = .ok (.invokevirtual 183, 3) := by decide +kernel
theorem dX8_carriedBy_4 : decode cX8_carriedBy 4 = .ok (.iconst 0, 1) := by decide +kernel
theorem dX8_carriedBy_5 : decode cX8_carriedBy 5 = .ok (.istore_n 2, 1) := by decide +kernel
theorem dX8_carriedBy_6 : decode cX8_carriedBy 6 = .ok (.iload_n 2, 1) := by decide +kernel
theorem dX8_carriedBy_7 : decode cX8_carriedBy 7 = .ok (.bipush 6, 2) := by decide +kernel
theorem dX8_carriedBy_9 : decode cX8_carriedBy 9 = .ok (.if_icmp .ge 61, 3) := by decide +kernel
theorem dX8_carriedBy_12 : decode cX8_carriedBy 12 = .ok (.iconst 0, 1) := by decide +kernel
theorem dX8_carriedBy_13 : decode cX8_carriedBy 13 = .ok (.istore_n 3, 1) := by decide +kernel
theorem dX8_carriedBy_14 : decode cX8_carriedBy 14 = .ok (.iload_n 3, 1) := by decide +kernel
theorem dX8_carriedBy_15 : decode cX8_carriedBy 15 = .ok (.aload_n 0, 1) := by decide +kernel
theorem dX8_carriedBy_16 : decode cX8_carriedBy 16 = .ok (.iload_n 2, 1) := by decide +kernel
theorem dX8_carriedBy_17 : decode cX8_carriedBy 17 = .ok (.invokevirtual 196, 3) := by decide +kernel
theorem dX8_carriedBy_20 : decode cX8_carriedBy 20 = .ok (.if_icmp .ge 44, 3) := by decide +kernel
theorem dX8_carriedBy_23 : decode cX8_carriedBy 23 = .ok (.aload_n 0, 1) := by decide +kernel
theorem dX8_carriedBy_24 : decode cX8_carriedBy 24 = .ok (.iload_n 3, 1) := by decide +kernel
theorem dX8_carriedBy_25 : decode cX8_carriedBy 25 = .ok (.iload_n 2, 1) := by decide +kernel
theorem dX8_carriedBy_26 : decode cX8_carriedBy 26 = .ok (.iload_n 1, 1) := by decide +kernel
theorem dX8_carriedBy_27 : decode cX8_carriedBy 27 = .ok (.aload_n 0, 1) := by decide +kernel
theorem dX8_carriedBy_28 : decode cX8_carriedBy 28 = .ok (.getfield 22, 3) := by decide +kernel
theorem dX8_carriedBy_31 : decode cX8_carriedBy 31 = .ok (.bipush 7, 2) := by decide +kernel
theorem dX8_carriedBy_33 : decode cX8_carriedBy 33 = .ok (.iaload, 1) := by decide +kernel
theorem dX8_carriedBy_34 : decode cX8_carriedBy 34 = .ok (.invokevirtual 199, 3) := by decide +kernel
theorem dX8_carriedBy_37 : decode cX8_carriedBy 37 = .ok (.ifCond .eq 21, 3) := by decide +kernel
theorem dX8_carriedBy_40 : decode cX8_carriedBy 40 = .ok (.aload_n 0, 1) := by decide +kernel
theorem dX8_carriedBy_41 : decode cX8_carriedBy 41 = .ok (.bipush 7, 2) := by decide +kernel
theorem dX8_carriedBy_43 : decode cX8_carriedBy 43 = .ok (.iload_n 2, 1) := by decide +kernel
theorem dX8_carriedBy_44 : decode cX8_carriedBy 44 = .ok (.imul, 1) := by decide +kernel
theorem dX8_carriedBy_45 : decode cX8_carriedBy 45 = .ok (.invokevirtual 186, 3) := by decide +kernel
theorem dX8_carriedBy_48 : decode cX8_carriedBy 48 = .ok (.ifCond .le 10, 3) := by decide +kernel
theorem dX8_carriedBy_51 : decode cX8_carriedBy 51 = .ok (.aload_n 0, 1) := by decide +kernel
theorem dX8_carriedBy_52 : decode cX8_carriedBy 52 = .ok (.iload_n 2, 1) := by decide +kernel
theorem dX8_carriedBy_53 : decode cX8_carriedBy 53 = .ok (.invokevirtual 203, 3) := by decide +kernel
theorem dX8_carriedBy_56 : decode cX8_carriedBy 56 = .ok (.iload_n 2, 1) := by decide +kernel
theorem dX8_carriedBy_57 : decode cX8_carriedBy 57 = .ok (.ireturn, 1) := by decide +kernel
theorem dX8_carriedBy_58 : decode cX8_carriedBy 58 = .ok (.iinc 3 1, 3) := by decide +kernel
theorem dX8_carriedBy_61 : decode cX8_carriedBy 61 = .ok (.goto (-47), 3) := by decide +kernel
theorem dX8_carriedBy_64 : decode cX8_carriedBy 64 = .ok (.iinc 2 1, 3) := by decide +kernel
theorem dX8_carriedBy_67 : decode cX8_carriedBy 67 = .ok (.goto (-61), 3) := by decide +kernel
theorem dX8_carriedBy_70 : decode cX8_carriedBy 70 = .ok (.bipush (-9), 2) := by decide +kernel
theorem dX8_carriedBy_72 : decode cX8_carriedBy 72 = .ok (.ireturn, 1) := by decide +kernel
set_option maxRecDepth 20000 in
theorem ggX8_carry_X8_carriedBy : GoodIn wsX8_carry wsX8_carriedBy := goodIn_r _ [7, 8, 9, 10, 11, 6, 12, 13, 14, 15, 16, 17, 18, 19, 20, 21, 22, 23, 24, 25, 26, 27, 28, 29, 30, 31, 32, 33, 34, 35, 36, 37, 38, 39, 40, 41, 42, 43, 44, 45, 2, 46, 47, 48, 49, 50, 51, 52, 53, 54, 55, 56, 57, 58, 59, 60, 61, 62, 63, 64, 65, 66, 67, 68, 69, 70, 71, 72, 73, 74, 75, 76, 77, 78, 79, 80] (by decide +kernel) (by decide +kernel)
set_option maxRecDepth 20000 in
theorem gX8_carry_X8_carriedBy : GoodIn wsX8_carry (wsV RX8 206 RX8 yX8_carriedBy wsX8_carriedBy) := goodIn_app (goodIn_of _ (by decide +kernel)) ggX8_carry_X8_carriedBy
theorem dX8_carry_0 : decode cX8_carry 0 = .ok (.aload_n 0, 1) := by decide +kernel
theorem dX8_carry_1 : decode cX8_carry 1 = .ok (.iconst 0, 1) := by decide +kernel
theorem dX8_carry_2 : decode cX8_carry 2 = .ok (.putfield 63, 3) := by decide +kernel
theorem dX8_carry_5 : decode cX8_carry 5 = .ok (.iload_n 1, 1) := by decide +kernel
theorem dX8_carry_6 : decode cX8_carry 6 = .ok (.iconst (-1), 1) := by decide +kernel
theorem dX8_carry_7 : decode cX8_carry 7 = .ok (.if_icmp .ge 5, 3) := by decide +kernel
theorem dX8_carry_10 : decode cX8_carry 10 = .ok (.iconst (-1), 1) := by decide +kernel
theorem dX8_carry_11 : decode cX8_carry 11 = .ok (.ireturn, 1) := by decide +kernel
theorem dX8_carry_12 : decode cX8_carry 12 = .ok (.aload_n 0, 1) := by decide +kernel
theorem dX8_carry_13 : decode cX8_carry 13 = .ok (.bipush (-9), 2) := by decide +kernel
theorem dX8_carry_15 : decode cX8_carry 15 = .ok (.invokevirtual 206, 3) := by decide +kernel
theorem dX8_carry_18 : decode cX8_carry 18 = .ok (.istore_n 2, 1) := by decide +kernel
theorem dX8_carry_19 : decode cX8_carry 19 = .ok (.iload_n 2, 1) := by decide +kernel
theorem dX8_carry_20 : decode cX8_carry 20 = .ok (.bipush (-9), 2) := by decide +kernel
theorem dX8_carry_22 : decode cX8_carry 22 = .ok (.if_icmp .eq 7, 3) := by decide +kernel
theorem dX8_carry_25 : decode cX8_carry 25 = .ok (.iload_n 1, 1) := by decide +kernel
theorem dX8_carry_26 : decode cX8_carry 26 = .ok (.ifCond .ge 7, 3) := by decide +kernel
theorem dX8_carry_29 : decode cX8_carry 29 = .ok (.iload_n 2, 1) := by decide +kernel
theorem dX8_carry_30 : decode cX8_carry 30 = .ok (.goto 19, 3) := by decide +kernel
theorem dX8_carry_33 : decode cX8_carry 33 = .ok (.iload_n 1, 1) := by decide +kernel
theorem dX8_carry_34 : decode cX8_carry 34 = .ok (.iload_n 2, 1) := by decide +kernel
theorem dX8_carry_35 : decode cX8_carry 35 = .ok (.if_icmp .ge 12, 3) := by decide +kernel
theorem dX8_carry_38 : decode cX8_carry 38 = .ok (.aload_n 0, 1) := by decide +kernel
theorem dX8_carry_39 : decode cX8_carry 39 = .ok (.getfield 50, 3) := by decide +kernel
theorem dX8_carry_42 : decode cX8_carry 42 = .ok (.iload_n 1, 1) := by decide +kernel
theorem dX8_carry_43 : decode cX8_carry 43 = .ok (.iaload, 1) := by decide +kernel
theorem dX8_carry_44 : decode cX8_carry 44 = .ok (.goto 5, 3) := by decide +kernel
theorem dX8_carry_47 : decode cX8_carry 47 = .ok (.bipush (-5), 2) := by decide +kernel
theorem dX8_carry_49 : decode cX8_carry 49 = .ok (.ireturn, 1) := by decide +kernel
theorem dX8_awake_0 : decode cX8_awake 0 = .ok (.iconst 0, 1) := by decide +kernel
theorem dX8_awake_1 : decode cX8_awake 1 = .ok (.istore_n 2, 1) := by decide +kernel
theorem dX8_awake_2 : decode cX8_awake 2 = .ok (.iconst 0, 1) := by decide +kernel
theorem dX8_awake_3 : decode cX8_awake 3 = .ok (.istore_n 3, 1) := by decide +kernel
theorem dX8_awake_4 : decode cX8_awake 4 = .ok (.iload_n 3, 1) := by decide +kernel
theorem dX8_awake_5 : decode cX8_awake 5 = .ok (.aload_n 0, 1) := by decide +kernel
theorem dX8_awake_6 : decode cX8_awake 6 = .ok (.getfield 145, 3) := by decide +kernel
theorem dX8_awake_9 : decode cX8_awake 9 = .ok (.if_icmp .ge 28, 3) := by decide +kernel
theorem dX8_awake_12 : decode cX8_awake 12 = .ok (.iload_n 2, 1) := by decide +kernel
theorem dX8_awake_13 : decode cX8_awake 13 = .ok (.aload_n 0, 1) := by decide +kernel
theorem dX8_awake_14 : decode cX8_awake 14 = .ok (.getfield 41, 3) := by decide +kernel
theorem dX8_awake_17 : decode cX8_awake 17 = .ok (.iload_n 1, 1) := by decide +kernel
theorem dX8_awake_18 : decode cX8_awake 18 = .ok (.iload_n 3, 1) := by decide +kernel
theorem dX8_awake_19 : decode cX8_awake 19 = .ok (.iadd, 1) := by decide +kernel
theorem dX8_awake_20 : decode cX8_awake 20 = .ok (.iaload, 1) := by decide +kernel
theorem dX8_awake_21 : decode cX8_awake 21 = .ok (.ifCond .le 7, 3) := by decide +kernel
theorem dX8_awake_24 : decode cX8_awake 24 = .ok (.iconst 1, 1) := by decide +kernel
theorem dX8_awake_25 : decode cX8_awake 25 = .ok (.goto 4, 3) := by decide +kernel
theorem dX8_awake_28 : decode cX8_awake 28 = .ok (.iconst 0, 1) := by decide +kernel
theorem dX8_awake_29 : decode cX8_awake 29 = .ok (.iadd, 1) := by decide +kernel
theorem dX8_awake_30 : decode cX8_awake 30 = .ok (.istore_n 2, 1) := by decide +kernel
theorem dX8_awake_31 : decode cX8_awake 31 = .ok (.iinc 3 1, 3) := by decide +kernel
theorem dX8_awake_34 : decode cX8_awake 34 = .ok (.goto (-30), 3) := by decide +kernel
theorem dX8_awake_37 : decode cX8_awake 37 = .ok (.iload_n 2, 1) := by decide +kernel
theorem dX8_awake_38 : decode cX8_awake 38 = .ok (.ireturn, 1) := by decide +kernel
set_option maxRecDepth 20000 in
theorem ggX8_save_X8_in : GoodIn wsX8_save wsX8_in := goodIn_r _ [7] (by decide +kernel) (by decide +kernel)
set_option maxRecDepth 20000 in
theorem gX8_save_X8_in : GoodIn wsX8_save (va_wsS RX8 66 yX8_in wsX8_in) := goodIn_app (goodIn_of _ (by decide +kernel)) ggX8_save_X8_in
set_option maxRecDepth 20000 in
theorem ggX8_save_X8_setsBoard : GoodIn wsX8_save wsX8_setsBoard := goodIn_r _ [11, 12, 2, 44, 45, 46, 47, 48, 49, 50, 51, 52, 53, 54, 55, 56, 57, 58, 59, 60, 61, 62, 63, 64, 65, 66, 67, 68, 69, 70, 71, 72, 73, 74, 75, 76, 77, 78] (by decide +kernel) (by decide +kernel)
set_option maxRecDepth 20000 in
theorem gX8_save_X8_setsBoard : GoodIn wsX8_save (wsV RX8 183 RX8 yX8_setsBoard wsX8_setsBoard) := goodIn_app (goodIn_of _ (by decide +kernel)) ggX8_save_X8_setsBoard
set_option maxRecDepth 20000 in
theorem ggX8_save_X8_plans : GoodIn wsX8_save wsX8_plans := goodIn_r _ [16, 17, 18, 19, 6, 20, 44, 45, 46, 47, 48, 49, 50, 51, 52, 53, 54, 55, 56, 57, 58, 59, 60, 61, 62, 63, 64, 65, 66, 67, 68, 69, 70, 71, 72, 73, 74, 75, 76, 77, 78] (by decide +kernel) (by decide +kernel)
set_option maxRecDepth 20000 in
theorem gX8_save_X8_plans : GoodIn wsX8_save (wsV RX8 196 RX8 yX8_plans wsX8_plans) := goodIn_app (goodIn_of _ (by decide +kernel)) ggX8_save_X8_plans
set_option maxRecDepth 20000 in
theorem ggX8_save_X8_isPlan : GoodIn wsX8_save wsX8_isPlan := goodIn_r _ [24, 17, 12, 25, 18, 19, 6, 20, 26, 27, 28, 29, 30, 31, 32, 33, 34, 35, 44, 45, 46, 47, 48, 49, 50, 51, 52, 53, 54, 55, 56, 57, 58, 59, 60, 61, 62, 63, 64, 65, 66, 67, 68, 69, 70, 71, 72, 73, 74, 75, 76, 77, 78] (by decide +kernel) (by decide +kernel)
set_option maxRecDepth 20000 in
theorem gX8_save_X8_isPlan : GoodIn wsX8_save (wsV RX8 199 RX8 yX8_isPlan wsX8_isPlan) := goodIn_app (goodIn_of _ (by decide +kernel)) ggX8_save_X8_isPlan
set_option maxRecDepth 20000 in
theorem ggX8_save_X8_awake : GoodIn wsX8_save wsX8_awake := goodIn_r _ [39, 17, 12, 44, 45, 46, 47, 48, 49, 50, 51, 52, 53, 54, 55, 56, 57, 58, 59, 60, 61, 62, 63, 64, 65, 66, 67, 68, 69, 70, 71, 72, 73, 74, 75, 76, 77, 78] (by decide +kernel) (by decide +kernel)
set_option maxRecDepth 20000 in
theorem gX8_save_X8_awake : GoodIn wsX8_save (wsV RX8 209 RX8 yX8_awake wsX8_awake) := goodIn_app (goodIn_of _ (by decide +kernel)) ggX8_save_X8_awake
set_option maxRecDepth 20000 in
theorem ggX8_save_X8_keepsPicks : GoodIn wsX8_save wsX8_keepsPicks := goodIn_r _ [43, 3, 25, 44, 45, 46, 47, 48, 49, 50, 51, 52, 53, 54, 55, 56, 57, 58, 59, 60, 61, 62, 63, 64, 65, 66, 67, 68, 69, 70, 71, 72, 73, 74, 75, 76, 77, 78] (by decide +kernel) (by decide +kernel)
set_option maxRecDepth 20000 in
theorem gX8_save_X8_keepsPicks : GoodIn wsX8_save (wsV RX8 203 RX8 yX8_keepsPicks wsX8_keepsPicks) := goodIn_app (goodIn_of _ (by decide +kernel)) ggX8_save_X8_keepsPicks
theorem dX8_save_0 : decode cX8_save 0 = .ok (.aload_n 0, 1) := by decide +kernel
theorem dX8_save_1 : decode cX8_save 1 = .ok (.iconst 0, 1) := by decide +kernel
theorem dX8_save_2 : decode cX8_save 2 = .ok (.putfield 63, 3) := by decide +kernel
theorem dX8_save_5 : decode cX8_save 5 = .ok (.iload_n 1, 1) := by decide +kernel
theorem dX8_save_6 : decode cX8_save 6 = .ok (.iconst 0, 1) := by decide +kernel
theorem dX8_save_7 : decode cX8_save 7 = .ok (.iconst 5, 1) := by decide +kernel
theorem dX8_save_8 : decode cX8_save 8 = .ok (.invokestatic 66, 3) := by decide +kernel
theorem dX8_save_11 : decode cX8_save 11 = .ok (.ifCond .eq 8, 3) := by decide +kernel
theorem dX8_save_14 : decode cX8_save 14 = .ok (.iload_n 2, 1) := by decide +kernel
theorem dX8_save_15 : decode cX8_save 15 = .ok (.iconst (-1), 1) := by decide +kernel
theorem dX8_save_16 : decode cX8_save 16 = .ok (.if_icmp .ge 5, 3) := by decide +kernel
theorem dX8_save_19 : decode cX8_save 19 = .ok (.iconst (-1), 1) := by decide +kernel
theorem dX8_save_20 : decode cX8_save 20 = .ok (.ireturn, 1) := by decide +kernel
theorem dX8_save_21 : decode cX8_save 21 = .ok (.aload_n 0, 1) := by decide +kernel
theorem dX8_save_22 : decode cX8_save 22 = .ok (.invokevirtual 183, 3) := by decide +kernel
theorem dX8_save_25 : decode cX8_save 25 = .ok (.bipush (-9), 2) := by decide +kernel
theorem dX8_save_27 : decode cX8_save 27 = .ok (.istore_n 3, 1) := by decide +kernel
theorem dX8_save_28 : decode cX8_save 28 = .ok (.iconst 0, 1) := by decide +kernel
theorem dX8_save_29 : decode cX8_save 29 = .ok (.istore 4, 2) := by decide +kernel
theorem dX8_save_31 : decode cX8_save 31 = .ok (.iload 4, 2) := by decide +kernel
theorem dX8_save_33 : decode cX8_save 33 = .ok (.aload_n 0, 1) := by decide +kernel
theorem dX8_save_34 : decode cX8_save 34 = .ok (.iload_n 1, 1) := by decide +kernel
theorem dX8_save_35 : decode cX8_save 35 = .ok (.invokevirtual 196, 3) := by decide +kernel
theorem dX8_save_38 : decode cX8_save 38 = .ok (.if_icmp .ge 54, 3) := by decide +kernel
theorem dX8_save_41 : decode cX8_save 41 = .ok (.aload_n 0, 1) := by decide +kernel
theorem dX8_save_42 : decode cX8_save 42 = .ok (.iload 4, 2) := by decide +kernel
theorem dX8_save_44 : decode cX8_save 44 = .ok (.iload_n 1, 1) := by decide +kernel
theorem dX8_save_45 : decode cX8_save 45 = .ok (.bipush (-9), 2) := by decide +kernel
theorem dX8_save_47 : decode cX8_save 47 = .ok (.aload_n 0, 1) := by decide +kernel
theorem dX8_save_48 : decode cX8_save 48 = .ok (.getfield 22, 3) := by decide +kernel
theorem dX8_save_51 : decode cX8_save 51 = .ok (.bipush 7, 2) := by decide +kernel
theorem dX8_save_53 : decode cX8_save 53 = .ok (.iaload, 1) := by decide +kernel
theorem dX8_save_54 : decode cX8_save 54 = .ok (.invokevirtual 199, 3) := by decide +kernel
theorem dX8_save_57 : decode cX8_save 57 = .ok (.ifCond .eq 29, 3) := by decide +kernel
theorem dX8_save_60 : decode cX8_save 60 = .ok (.aload_n 0, 1) := by decide +kernel
theorem dX8_save_61 : decode cX8_save 61 = .ok (.bipush 7, 2) := by decide +kernel
theorem dX8_save_63 : decode cX8_save 63 = .ok (.iload_n 1, 1) := by decide +kernel
theorem dX8_save_64 : decode cX8_save 64 = .ok (.imul, 1) := by decide +kernel
theorem dX8_save_65 : decode cX8_save 65 = .ok (.invokevirtual 209, 3) := by decide +kernel
theorem dX8_save_68 : decode cX8_save 68 = .ok (.iload_n 3, 1) := by decide +kernel
theorem dX8_save_69 : decode cX8_save 69 = .ok (.if_icmp .le 17, 3) := by decide +kernel
theorem dX8_save_72 : decode cX8_save 72 = .ok (.aload_n 0, 1) := by decide +kernel
theorem dX8_save_73 : decode cX8_save 73 = .ok (.bipush 7, 2) := by decide +kernel
theorem dX8_save_75 : decode cX8_save 75 = .ok (.iload_n 1, 1) := by decide +kernel
theorem dX8_save_76 : decode cX8_save 76 = .ok (.imul, 1) := by decide +kernel
theorem dX8_save_77 : decode cX8_save 77 = .ok (.invokevirtual 209, 3) := by decide +kernel
theorem dX8_save_80 : decode cX8_save 80 = .ok (.istore_n 3, 1) := by decide +kernel
theorem dX8_save_81 : decode cX8_save 81 = .ok (.aload_n 0, 1) := by decide +kernel
theorem dX8_save_82 : decode cX8_save 82 = .ok (.iload_n 1, 1) := by decide +kernel
theorem dX8_save_83 : decode cX8_save 83 = .ok (.invokevirtual 203, 3) := by decide +kernel
theorem dX8_save_86 : decode cX8_save 86 = .ok (.iinc 4 1, 3) := by decide +kernel
theorem dX8_save_89 : decode cX8_save 89 = .ok (.goto (-58), 3) := by decide +kernel
theorem dX8_save_92 : decode cX8_save 92 = .ok (.iload_n 3, 1) := by decide +kernel
theorem dX8_save_93 : decode cX8_save 93 = .ok (.bipush (-9), 2) := by decide +kernel
theorem dX8_save_95 : decode cX8_save 95 = .ok (.if_icmp .eq 7, 3) := by decide +kernel
theorem dX8_save_98 : decode cX8_save 98 = .ok (.iload_n 2, 1) := by decide +kernel
theorem dX8_save_99 : decode cX8_save 99 = .ok (.ifCond .ge 7, 3) := by decide +kernel
theorem dX8_save_102 : decode cX8_save 102 = .ok (.iload_n 3, 1) := by decide +kernel
theorem dX8_save_103 : decode cX8_save 103 = .ok (.goto 19, 3) := by decide +kernel
theorem dX8_save_106 : decode cX8_save 106 = .ok (.iload_n 2, 1) := by decide +kernel
theorem dX8_save_107 : decode cX8_save 107 = .ok (.iload_n 1, 1) := by decide +kernel
theorem dX8_save_108 : decode cX8_save 108 = .ok (.if_icmp .ge 12, 3) := by decide +kernel
theorem dX8_save_111 : decode cX8_save 111 = .ok (.aload_n 0, 1) := by decide +kernel
theorem dX8_save_112 : decode cX8_save 112 = .ok (.getfield 50, 3) := by decide +kernel
theorem dX8_save_115 : decode cX8_save 115 = .ok (.iload_n 2, 1) := by decide +kernel
theorem dX8_save_116 : decode cX8_save 116 = .ok (.iaload, 1) := by decide +kernel
theorem dX8_save_117 : decode cX8_save 117 = .ok (.goto 5, 3) := by decide +kernel
theorem dX8_save_120 : decode cX8_save 120 = .ok (.bipush (-5), 2) := by decide +kernel
theorem dX8_save_122 : decode cX8_save 122 = .ok (.ireturn, 1) := by decide +kernel
set_option maxRecDepth 20000 in
theorem ggX8_worth_X8_isMember : GoodIn wsX8_worth wsX8_isMember := goodIn_r _ [6, 7, 8, 9, 5, 10, 53, 54, 55, 56, 57, 58, 59, 60, 61, 62, 63, 64, 65, 66, 67, 68, 69, 70, 71, 72, 73, 74, 75, 76, 77, 78, 79, 80, 81, 82, 83, 84, 85, 86, 87] (by decide +kernel) (by decide +kernel)
set_option maxRecDepth 20000 in
theorem gX8_worth_X8_isMember : GoodIn wsX8_worth (wsV RX8 160 RX8 yX8_isMember wsX8_isMember) := goodIn_app (goodIn_of _ (by decide +kernel)) ggX8_worth_X8_isMember
set_option maxRecDepth 20000 in
theorem ggX8_worth_X8_carriedBy : GoodIn wsX8_worth wsX8_carriedBy := goodIn_r _ [14, 15, 16, 17, 18, 5, 19, 20, 21, 22, 23, 24, 7, 25, 26, 27, 28, 29, 30, 31, 32, 33, 34, 35, 36, 37, 38, 39, 40, 41, 42, 43, 44, 45, 46, 47, 48, 49, 50, 51, 52, 53, 54, 55, 56, 57, 58, 59, 60, 61, 62, 63, 64, 65, 66, 67, 68, 69, 70, 71, 72, 73, 74, 75, 76, 77, 78, 79, 80, 81, 82, 83, 84, 85, 86, 87] (by decide +kernel) (by decide +kernel)
set_option maxRecDepth 20000 in
theorem gX8_worth_X8_carriedBy : GoodIn wsX8_worth (wsV RX8 206 RX8 yX8_carriedBy wsX8_carriedBy) := goodIn_app (goodIn_of _ (by decide +kernel)) ggX8_worth_X8_carriedBy
theorem dX8_worth_0 : decode cX8_worth 0 = .ok (.aload_n 0, 1) := by decide +kernel
theorem dX8_worth_1 : decode cX8_worth 1 = .ok (.iconst 0, 1) := by decide +kernel
theorem dX8_worth_2 : decode cX8_worth 2 = .ok (.putfield 63, 3) := by decide +kernel
theorem dX8_worth_5 : decode cX8_worth 5 = .ok (.aload_n 0, 1) := by decide +kernel
theorem dX8_worth_6 : decode cX8_worth 6 = .ok (.iload_n 1, 1) := by decide +kernel
theorem dX8_worth_7 : decode cX8_worth 7 = .ok (.invokevirtual 160, 3) := by decide +kernel
theorem dX8_worth_10 : decode cX8_worth 10 = .ok (.ifCond .ne 5, 3) := by decide +kernel
theorem dX8_worth_13 : decode cX8_worth 13 = .ok (.iconst (-1), 1) := by decide +kernel
theorem dX8_worth_14 : decode cX8_worth 14 = .ok (.ireturn, 1) := by decide +kernel
theorem dX8_worth_15 : decode cX8_worth 15 = .ok (.aload_n 0, 1) := by decide +kernel
theorem dX8_worth_16 : decode cX8_worth 16 = .ok (.bipush (-9), 2) := by decide +kernel
theorem dX8_worth_18 : decode cX8_worth 18 = .ok (.invokevirtual 206, 3) := by decide +kernel
theorem dX8_worth_21 : decode cX8_worth 21 = .ok (.istore_n 2, 1) := by decide +kernel
theorem dX8_worth_22 : decode cX8_worth 22 = .ok (.aload_n 0, 1) := by decide +kernel
theorem dX8_worth_23 : decode cX8_worth 23 = .ok (.iload_n 1, 1) := by decide +kernel
theorem dX8_worth_24 : decode cX8_worth 24 = .ok (.invokevirtual 206, 3) := by decide +kernel
theorem dX8_worth_27 : decode cX8_worth 27 = .ok (.istore_n 3, 1) := by decide +kernel
theorem dX8_worth_28 : decode cX8_worth 28 = .ok (.iload_n 2, 1) := by decide +kernel
theorem dX8_worth_29 : decode cX8_worth 29 = .ok (.bipush (-9), 2) := by decide +kernel
theorem dX8_worth_31 : decode cX8_worth 31 = .ok (.if_icmp .ne 8, 3) := by decide +kernel
theorem dX8_worth_34 : decode cX8_worth 34 = .ok (.bipush (-9), 2) := by decide +kernel
theorem dX8_worth_36 : decode cX8_worth 36 = .ok (.goto 17, 3) := by decide +kernel
theorem dX8_worth_39 : decode cX8_worth 39 = .ok (.iload_n 3, 1) := by decide +kernel
theorem dX8_worth_40 : decode cX8_worth 40 = .ok (.bipush (-9), 2) := by decide +kernel
theorem dX8_worth_42 : decode cX8_worth 42 = .ok (.if_icmp .ne 8, 3) := by decide +kernel
theorem dX8_worth_45 : decode cX8_worth 45 = .ok (.bipush (-5), 2) := by decide +kernel
theorem dX8_worth_47 : decode cX8_worth 47 = .ok (.goto 6, 3) := by decide +kernel
theorem dX8_worth_50 : decode cX8_worth 50 = .ok (.iload_n 3, 1) := by decide +kernel
theorem dX8_worth_51 : decode cX8_worth 51 = .ok (.iload_n 2, 1) := by decide +kernel
theorem dX8_worth_52 : decode cX8_worth 52 = .ok (.isub, 1) := by decide +kernel
theorem dX8_worth_53 : decode cX8_worth 53 = .ok (.ireturn, 1) := by decide +kernel
theorem dX8_folds_0 : decode cX8_folds 0 = .ok (.iload_n 1, 1) := by decide +kernel
theorem dX8_folds_1 : decode cX8_folds 1 = .ok (.ifCond .lt 54, 3) := by decide +kernel
theorem dX8_folds_4 : decode cX8_folds 4 = .ok (.iload_n 1, 1) := by decide +kernel
theorem dX8_folds_5 : decode cX8_folds 5 = .ok (.iconst 2, 1) := by decide +kernel
theorem dX8_folds_6 : decode cX8_folds 6 = .ok (.irem, 1) := by decide +kernel
theorem dX8_folds_7 : decode cX8_folds 7 = .ok (.ifCond .ne 48, 3) := by decide +kernel
theorem dX8_folds_10 : decode cX8_folds 10 = .ok (.iload_n 2, 1) := by decide +kernel
theorem dX8_folds_11 : decode cX8_folds 11 = .ok (.iconst 1, 1) := by decide +kernel
theorem dX8_folds_12 : decode cX8_folds 12 = .ok (.if_icmp .ne 43, 3) := by decide +kernel
theorem dX8_folds_15 : decode cX8_folds 15 = .ok (.aload_n 0, 1) := by decide +kernel
theorem dX8_folds_16 : decode cX8_folds 16 = .ok (.getfield 47, 3) := by decide +kernel
theorem dX8_folds_19 : decode cX8_folds 19 = .ok (.iload_n 1, 1) := by decide +kernel
theorem dX8_folds_20 : decode cX8_folds 20 = .ok (.iaload, 1) := by decide +kernel
theorem dX8_folds_21 : decode cX8_folds 21 = .ok (.ifCond .ne 34, 3) := by decide +kernel
theorem dX8_folds_24 : decode cX8_folds 24 = .ok (.aload_n 0, 1) := by decide +kernel
theorem dX8_folds_25 : decode cX8_folds 25 = .ok (.getfield 47, 3) := by decide +kernel
theorem dX8_folds_28 : decode cX8_folds 28 = .ok (.iload_n 1, 1) := by decide +kernel
theorem dX8_folds_29 : decode cX8_folds 29 = .ok (.iconst 1, 1) := by decide +kernel
theorem dX8_folds_30 : decode cX8_folds 30 = .ok (.iastore, 1) := by decide +kernel
theorem dX8_folds_31 : decode cX8_folds 31 = .ok (.aload_n 0, 1) := by decide +kernel
theorem dX8_folds_32 : decode cX8_folds 32 = .ok (.iload_n 1, 1) := by decide +kernel
theorem dX8_folds_33 : decode cX8_folds 33 = .ok (.ifCond .ne 12, 3) := by decide +kernel
theorem dX8_folds_36 : decode cX8_folds 36 = .ok (.aload_n 0, 1) := by decide +kernel
theorem dX8_folds_37 : decode cX8_folds 37 = .ok (.getfield 44, 3) := by decide +kernel
theorem dX8_folds_40 : decode cX8_folds 40 = .ok (.iconst 0, 1) := by decide +kernel
theorem dX8_folds_41 : decode cX8_folds 41 = .ok (.iaload, 1) := by decide +kernel
theorem dX8_folds_42 : decode cX8_folds 42 = .ok (.goto 7, 3) := by decide +kernel
theorem dX8_folds_45 : decode cX8_folds 45 = .ok (.aload_n 0, 1) := by decide +kernel
theorem dX8_folds_46 : decode cX8_folds 46 = .ok (.getfield 212, 3) := by decide +kernel
theorem dX8_folds_49 : decode cX8_folds 49 = .ok (.putfield 212, 3) := by decide +kernel
theorem dX8_folds_52 : decode cX8_folds 52 = .ok (.goto 25, 3) := by decide +kernel
theorem dX8_folds_55 : decode cX8_folds 55 = .ok (.iload_n 1, 1) := by decide +kernel
theorem dX8_folds_56 : decode cX8_folds 56 = .ok (.ifCond .lt 21, 3) := by decide +kernel
theorem dX8_folds_59 : decode cX8_folds 59 = .ok (.iload_n 1, 1) := by decide +kernel
theorem dX8_folds_60 : decode cX8_folds 60 = .ok (.iconst 2, 1) := by decide +kernel
theorem dX8_folds_61 : decode cX8_folds 61 = .ok (.irem, 1) := by decide +kernel
theorem dX8_folds_62 : decode cX8_folds 62 = .ok (.iconst 1, 1) := by decide +kernel
theorem dX8_folds_63 : decode cX8_folds 63 = .ok (.if_icmp .ne 14, 3) := by decide +kernel
theorem dX8_folds_66 : decode cX8_folds 66 = .ok (.iload_n 2, 1) := by decide +kernel
theorem dX8_folds_67 : decode cX8_folds 67 = .ok (.ifCond .ne 10, 3) := by decide +kernel
theorem dX8_folds_70 : decode cX8_folds 70 = .ok (.aload_n 0, 1) := by decide +kernel
theorem dX8_folds_71 : decode cX8_folds 71 = .ok (.getfield 47, 3) := by decide +kernel
theorem dX8_folds_74 : decode cX8_folds 74 = .ok (.iload_n 1, 1) := by decide +kernel
theorem dX8_folds_75 : decode cX8_folds 75 = .ok (.iconst 0, 1) := by decide +kernel
theorem dX8_folds_76 : decode cX8_folds 76 = .ok (.iastore, 1) := by decide +kernel
theorem dX8_folds_77 : decode cX8_folds 77 = .ok (.return_, 1) := by decide +kernel
theorem dX8_opens_0 : decode cX8_opens 0 = .ok (.aload_n 0, 1) := by decide +kernel
theorem dX8_opens_1 : decode cX8_opens 1 = .ok (.getfield 44, 3) := by decide +kernel
theorem dX8_opens_4 : decode cX8_opens 4 = .ok (.iload_n 1, 1) := by decide +kernel
theorem dX8_opens_5 : decode cX8_opens 5 = .ok (.iconst (-1), 1) := by decide +kernel
theorem dX8_opens_6 : decode cX8_opens 6 = .ok (.iastore, 1) := by decide +kernel
theorem dX8_opens_7 : decode cX8_opens 7 = .ok (.aload_n 0, 1) := by decide +kernel
theorem dX8_opens_8 : decode cX8_opens 8 = .ok (.getfield 47, 3) := by decide +kernel
theorem dX8_opens_11 : decode cX8_opens 11 = .ok (.iload_n 1, 1) := by decide +kernel
theorem dX8_opens_12 : decode cX8_opens 12 = .ok (.iload_n 1, 1) := by decide +kernel
theorem dX8_opens_13 : decode cX8_opens 13 = .ok (.iconst 2, 1) := by decide +kernel
theorem dX8_opens_14 : decode cX8_opens 14 = .ok (.irem, 1) := by decide +kernel
theorem dX8_opens_15 : decode cX8_opens 15 = .ok (.ifCond .ne 7, 3) := by decide +kernel
theorem dX8_opens_18 : decode cX8_opens 18 = .ok (.iconst 0, 1) := by decide +kernel
theorem dX8_opens_19 : decode cX8_opens 19 = .ok (.goto 4, 3) := by decide +kernel
theorem dX8_opens_22 : decode cX8_opens 22 = .ok (.iconst 1, 1) := by decide +kernel
theorem dX8_opens_23 : decode cX8_opens 23 = .ok (.iastore, 1) := by decide +kernel
theorem dX8_opens_24 : decode cX8_opens 24 = .ok (.return_, 1) := by decide +kernel
theorem dX8_choiceBehind_0 : decode cX8_choiceBehind 0 = .ok (.bipush 7, 2) := by decide +kernel
theorem dX8_choiceBehind_2 : decode cX8_choiceBehind 2 = .ok (.istore_n 3, 1) := by decide +kernel
theorem dX8_choiceBehind_3 : decode cX8_choiceBehind 3 = .ok (.iconst 0, 1) := by decide +kernel
theorem dX8_choiceBehind_4 : decode cX8_choiceBehind 4 = .ok (.istore 4, 2) := by decide +kernel
theorem dX8_choiceBehind_6 : decode cX8_choiceBehind 6 = .ok (.iconst 5, 1) := by decide +kernel
theorem dX8_choiceBehind_7 : decode cX8_choiceBehind 7 = .ok (.istore 5, 2) := by decide +kernel
theorem dX8_choiceBehind_9 : decode cX8_choiceBehind 9 = .ok (.iload 5, 2) := by decide +kernel
theorem dX8_choiceBehind_11 : decode cX8_choiceBehind 11 = .ok (.ifCond .lt 88, 3) := by decide +kernel
theorem dX8_choiceBehind_14 : decode cX8_choiceBehind 14 = .ok (.iload 5, 2) := by decide +kernel
theorem dX8_choiceBehind_16 : decode cX8_choiceBehind 16 = .ok (.aload_n 0, 1) := by decide +kernel
theorem dX8_choiceBehind_17 : decode cX8_choiceBehind 17 = .ok (.getfield 145, 3) := by decide +kernel
theorem dX8_choiceBehind_20 : decode cX8_choiceBehind 20 = .ok (.if_icmp .ge 37, 3) := by decide +kernel
theorem dX8_choiceBehind_23 : decode cX8_choiceBehind 23 = .ok (.aload_n 0, 1) := by decide +kernel
theorem dX8_choiceBehind_24 : decode cX8_choiceBehind 24 = .ok (.getfield 16, 3) := by decide +kernel
theorem dX8_choiceBehind_27 : decode cX8_choiceBehind 27 = .ok (.iload 5, 2) := by decide +kernel
theorem dX8_choiceBehind_29 : decode cX8_choiceBehind 29 = .ok (.iaload, 1) := by decide +kernel
theorem dX8_choiceBehind_30 : decode cX8_choiceBehind 30 = .ok (.iconst 1, 1) := by decide +kernel
theorem dX8_choiceBehind_31 : decode cX8_choiceBehind 31 = .ok (.iload_n 1, 1) := by decide +kernel
theorem dX8_choiceBehind_32 : decode cX8_choiceBehind 32 = .ok (.iconst 2, 1) := by decide +kernel
theorem dX8_choiceBehind_33 : decode cX8_choiceBehind 33 = .ok (.irem, 1) := by decide +kernel
theorem dX8_choiceBehind_34 : decode cX8_choiceBehind 34 = .ok (.isub, 1) := by decide +kernel
theorem dX8_choiceBehind_35 : decode cX8_choiceBehind 35 = .ok (.if_icmp .ne 22, 3) := by decide +kernel
theorem dX8_choiceBehind_38 : decode cX8_choiceBehind 38 = .ok (.aload_n 0, 1) := by decide +kernel
theorem dX8_choiceBehind_39 : decode cX8_choiceBehind 39 = .ok (.getfield 41, 3) := by decide +kernel
theorem dX8_choiceBehind_42 : decode cX8_choiceBehind 42 = .ok (.bipush 7, 2) := by decide +kernel
theorem dX8_choiceBehind_44 : decode cX8_choiceBehind 44 = .ok (.iload_n 1, 1) := by decide +kernel
theorem dX8_choiceBehind_45 : decode cX8_choiceBehind 45 = .ok (.imul, 1) := by decide +kernel
theorem dX8_choiceBehind_46 : decode cX8_choiceBehind 46 = .ok (.iload 5, 2) := by decide +kernel
theorem dX8_choiceBehind_48 : decode cX8_choiceBehind 48 = .ok (.iadd, 1) := by decide +kernel
theorem dX8_choiceBehind_49 : decode cX8_choiceBehind 49 = .ok (.iaload, 1) := by decide +kernel
theorem dX8_choiceBehind_50 : decode cX8_choiceBehind 50 = .ok (.ifCond .le 7, 3) := by decide +kernel
theorem dX8_choiceBehind_53 : decode cX8_choiceBehind 53 = .ok (.iconst 1, 1) := by decide +kernel
theorem dX8_choiceBehind_54 : decode cX8_choiceBehind 54 = .ok (.goto 4, 3) := by decide +kernel
theorem dX8_choiceBehind_57 : decode cX8_choiceBehind 57 = .ok (.iconst 0, 1) := by decide +kernel
theorem dX8_choiceBehind_58 : decode cX8_choiceBehind 58 = .ok (.istore 6, 2) := by decide +kernel
theorem dX8_choiceBehind_60 : decode cX8_choiceBehind 60 = .ok (.iload 4, 2) := by decide +kernel
theorem dX8_choiceBehind_62 : decode cX8_choiceBehind 62 = .ok (.iload 6, 2) := by decide +kernel
theorem dX8_choiceBehind_64 : decode cX8_choiceBehind 64 = .ok (.ifCond .eq 7, 3) := by decide +kernel
theorem dX8_choiceBehind_67 : decode cX8_choiceBehind 67 = .ok (.iconst 1, 1) := by decide +kernel
theorem dX8_choiceBehind_68 : decode cX8_choiceBehind 68 = .ok (.goto 4, 3) := by decide +kernel
theorem dX8_choiceBehind_71 : decode cX8_choiceBehind 71 = .ok (.iconst 0, 1) := by decide +kernel
theorem dX8_choiceBehind_72 : decode cX8_choiceBehind 72 = .ok (.iadd, 1) := by decide +kernel
theorem dX8_choiceBehind_73 : decode cX8_choiceBehind 73 = .ok (.istore 4, 2) := by decide +kernel
theorem dX8_choiceBehind_75 : decode cX8_choiceBehind 75 = .ok (.iload 6, 2) := by decide +kernel
theorem dX8_choiceBehind_77 : decode cX8_choiceBehind 77 = .ok (.ifCond .eq 14, 3) := by decide +kernel
theorem dX8_choiceBehind_80 : decode cX8_choiceBehind 80 = .ok (.iload 5, 2) := by decide +kernel
theorem dX8_choiceBehind_82 : decode cX8_choiceBehind 82 = .ok (.iload_n 2, 1) := by decide +kernel
theorem dX8_choiceBehind_83 : decode cX8_choiceBehind 83 = .ok (.if_icmp .le 8, 3) := by decide +kernel
theorem dX8_choiceBehind_86 : decode cX8_choiceBehind 86 = .ok (.iload 5, 2) := by decide +kernel
theorem dX8_choiceBehind_88 : decode cX8_choiceBehind 88 = .ok (.goto 4, 3) := by decide +kernel
theorem dX8_choiceBehind_91 : decode cX8_choiceBehind 91 = .ok (.iload_n 3, 1) := by decide +kernel
theorem dX8_choiceBehind_92 : decode cX8_choiceBehind 92 = .ok (.istore_n 3, 1) := by decide +kernel
theorem dX8_choiceBehind_93 : decode cX8_choiceBehind 93 = .ok (.iinc 5 (-1), 3) := by decide +kernel
theorem dX8_choiceBehind_96 : decode cX8_choiceBehind 96 = .ok (.goto (-87), 3) := by decide +kernel
theorem dX8_choiceBehind_99 : decode cX8_choiceBehind 99 = .ok (.iload 4, 2) := by decide +kernel
theorem dX8_choiceBehind_101 : decode cX8_choiceBehind 101 = .ok (.ifCond .ne 12, 3) := by decide +kernel
theorem dX8_choiceBehind_104 : decode cX8_choiceBehind 104 = .ok (.iload_n 2, 1) := by decide +kernel
theorem dX8_choiceBehind_105 : decode cX8_choiceBehind 105 = .ok (.ifCond .ge 8, 3) := by decide +kernel
theorem dX8_choiceBehind_108 : decode cX8_choiceBehind 108 = .ok (.bipush 6, 2) := by decide +kernel
theorem dX8_choiceBehind_110 : decode cX8_choiceBehind 110 = .ok (.goto 4, 3) := by decide +kernel
theorem dX8_choiceBehind_113 : decode cX8_choiceBehind 113 = .ok (.iload_n 3, 1) := by decide +kernel
theorem dX8_choiceBehind_114 : decode cX8_choiceBehind 114 = .ok (.ireturn, 1) := by decide +kernel
set_option maxRecDepth 20000 in
theorem ggX8_playedBy_X8_setsBoard : GoodIn wsX8_playedBy wsX8_setsBoard := goodIn_r _ [9, 10, 4, 39, 40, 41, 42, 43, 44, 45, 46, 47, 48, 49, 50, 51, 52, 53, 54, 55, 56, 57, 58, 59, 60, 61, 62, 63, 64, 65, 66, 67, 68, 69, 70, 71, 72, 73] (by decide +kernel) (by decide +kernel)
set_option maxRecDepth 20000 in
theorem gX8_playedBy_X8_setsBoard : GoodIn wsX8_playedBy (wsV RX8 183 RX8 yX8_setsBoard wsX8_setsBoard) := goodIn_app (goodIn_of _ (by decide +kernel)) ggX8_playedBy_X8_setsBoard
set_option maxRecDepth 20000 in
theorem ggX8_playedBy_X8_opens : GoodIn wsX8_playedBy wsX8_opens := goodIn_r _ [14, 2, 3, 39, 40, 41, 42, 43, 44, 45, 46, 47, 48, 49, 50, 51, 52, 53, 54, 55, 56, 57, 58, 59, 60, 61, 62, 63, 64, 65, 66, 67, 68, 69, 70, 71, 72, 73] (by decide +kernel) (by decide +kernel)
set_option maxRecDepth 20000 in
theorem gX8_playedBy_X8_opens : GoodIn wsX8_playedBy (wsV RX8 215 RX8 yX8_opens wsX8_opens) := goodIn_app (goodIn_of _ (by decide +kernel)) ggX8_playedBy_X8_opens
set_option maxRecDepth 20000 in
theorem ggX8_playedBy_X8_choiceBehind : GoodIn wsX8_playedBy wsX8_choiceBehind := goodIn_r _ [18, 19, 20, 10, 39, 40, 41, 42, 43, 44, 45, 46, 47, 48, 49, 50, 51, 52, 53, 54, 55, 56, 57, 58, 59, 60, 61, 62, 63, 64, 65, 66, 67, 68, 69, 70, 71, 72, 73] (by decide +kernel) (by decide +kernel)
set_option maxRecDepth 20000 in
theorem gX8_playedBy_X8_choiceBehind : GoodIn wsX8_playedBy (wsV RX8 218 RX8 yX8_choiceBehind wsX8_choiceBehind) := goodIn_app (goodIn_of _ (by decide +kernel)) ggX8_playedBy_X8_choiceBehind
set_option maxRecDepth 20000 in
theorem ggX8_playedBy_X8_lead : GoodIn wsX8_playedBy wsX8_lead := goodIn_r _ [24, 19, 10, 20, 39, 40, 41, 42, 43, 44, 45, 46, 47, 48, 49, 50, 51, 52, 53, 54, 55, 56, 57, 58, 59, 60, 61, 62, 63, 64, 65, 66, 67, 68, 69, 70, 71, 72, 73] (by decide +kernel) (by decide +kernel)
set_option maxRecDepth 20000 in
theorem gX8_playedBy_X8_lead : GoodIn wsX8_playedBy (wsV RX8 186 RX8 yX8_lead wsX8_lead) := goodIn_app (goodIn_of _ (by decide +kernel)) ggX8_playedBy_X8_lead
set_option maxRecDepth 20000 in
theorem ggX8_playedBy_X8_folds : GoodIn wsX8_playedBy wsX8_folds := goodIn_r _ [28, 3, 2, 1, 39, 40, 41, 42, 43, 44, 45, 46, 47, 48, 49, 50, 51, 52, 53, 54, 55, 56, 57, 58, 59, 60, 61, 62, 63, 64, 65, 66, 67, 68, 69, 70, 71, 72, 73] (by decide +kernel) (by decide +kernel)
set_option maxRecDepth 20000 in
theorem gX8_playedBy_X8_folds : GoodIn wsX8_playedBy (wsV RX8 221 RX8 yX8_folds wsX8_folds) := goodIn_app (goodIn_of _ (by decide +kernel)) ggX8_playedBy_X8_folds
set_option maxRecDepth 20000 in
theorem ggX8_playedBy_X8_goes : GoodIn wsX8_playedBy wsX8_goes := goodIn_r _ [32, 10, 19, 33, 34, 35, 8, 36, 37, 38, 39, 40, 41, 42, 43, 44, 45, 46, 47, 48, 49, 50, 51, 52, 53, 54, 55, 56, 57, 58, 59, 60, 61, 62, 63, 64, 65, 66, 67, 68, 69, 70, 71, 72, 73] (by decide +kernel) (by decide +kernel)
set_option maxRecDepth 20000 in
theorem gX8_playedBy_X8_goes : GoodIn wsX8_playedBy (wsV RX8 192 RX8 yX8_goes wsX8_goes) := goodIn_app (goodIn_of _ (by decide +kernel)) ggX8_playedBy_X8_goes
theorem dX8_playedBy_0 : decode cX8_playedBy 0 = .ok (.aload_n 0, 1) := by decide +kernel
theorem dX8_playedBy_1 : decode cX8_playedBy 1 = .ok (.invokevirtual 183, 3) := by decide +kernel
theorem dX8_playedBy_4 : decode cX8_playedBy 4 = .ok (.aload_n 0, 1) := by decide +kernel
theorem dX8_playedBy_5 : decode cX8_playedBy 5 = .ok (.bipush (-9), 2) := by decide +kernel
theorem dX8_playedBy_7 : decode cX8_playedBy 7 = .ok (.putfield 212, 3) := by decide +kernel
theorem dX8_playedBy_10 : decode cX8_playedBy 10 = .ok (.iconst 0, 1) := by decide +kernel
theorem dX8_playedBy_11 : decode cX8_playedBy 11 = .ok (.istore_n 2, 1) := by decide +kernel
theorem dX8_playedBy_12 : decode cX8_playedBy 12 = .ok (.iconst 0, 1) := by decide +kernel
theorem dX8_playedBy_13 : decode cX8_playedBy 13 = .ok (.istore_n 3, 1) := by decide +kernel
theorem dX8_playedBy_14 : decode cX8_playedBy 14 = .ok (.iload_n 1, 1) := by decide +kernel
theorem dX8_playedBy_15 : decode cX8_playedBy 15 = .ok (.ifCond .le 8, 3) := by decide +kernel
theorem dX8_playedBy_18 : decode cX8_playedBy 18 = .ok (.aload_n 0, 1) := by decide +kernel
theorem dX8_playedBy_19 : decode cX8_playedBy 19 = .ok (.iconst 0, 1) := by decide +kernel
theorem dX8_playedBy_20 : decode cX8_playedBy 20 = .ok (.invokevirtual 215, 3) := by decide +kernel
theorem dX8_playedBy_23 : decode cX8_playedBy 23 = .ok (.iload_n 2, 1) := by decide +kernel
theorem dX8_playedBy_24 : decode cX8_playedBy 24 = .ok (.ifCond .lt 129, 3) := by decide +kernel
theorem dX8_playedBy_27 : decode cX8_playedBy 27 = .ok (.iload_n 2, 1) := by decide +kernel
theorem dX8_playedBy_28 : decode cX8_playedBy 28 = .ok (.iload_n 1, 1) := by decide +kernel
theorem dX8_playedBy_29 : decode cX8_playedBy 29 = .ok (.if_icmp .ne 8, 3) := by decide +kernel
theorem dX8_playedBy_32 : decode cX8_playedBy 32 = .ok (.bipush 7, 2) := by decide +kernel
theorem dX8_playedBy_34 : decode cX8_playedBy 34 = .ok (.goto 14, 3) := by decide +kernel
theorem dX8_playedBy_37 : decode cX8_playedBy 37 = .ok (.aload_n 0, 1) := by decide +kernel
theorem dX8_playedBy_38 : decode cX8_playedBy 38 = .ok (.iload_n 2, 1) := by decide +kernel
theorem dX8_playedBy_39 : decode cX8_playedBy 39 = .ok (.aload_n 0, 1) := by decide +kernel
theorem dX8_playedBy_40 : decode cX8_playedBy 40 = .ok (.getfield 44, 3) := by decide +kernel
theorem dX8_playedBy_43 : decode cX8_playedBy 43 = .ok (.iload_n 2, 1) := by decide +kernel
theorem dX8_playedBy_44 : decode cX8_playedBy 44 = .ok (.iaload, 1) := by decide +kernel
theorem dX8_playedBy_45 : decode cX8_playedBy 45 = .ok (.invokevirtual 218, 3) := by decide +kernel
theorem dX8_playedBy_48 : decode cX8_playedBy 48 = .ok (.istore 4, 2) := by decide +kernel
theorem dX8_playedBy_50 : decode cX8_playedBy 50 = .ok (.iload 4, 2) := by decide +kernel
theorem dX8_playedBy_52 : decode cX8_playedBy 52 = .ok (.bipush 7, 2) := by decide +kernel
theorem dX8_playedBy_54 : decode cX8_playedBy 54 = .ok (.if_icmp .ne 46, 3) := by decide +kernel
theorem dX8_playedBy_57 : decode cX8_playedBy 57 = .ok (.iload_n 2, 1) := by decide +kernel
theorem dX8_playedBy_58 : decode cX8_playedBy 58 = .ok (.iload_n 1, 1) := by decide +kernel
theorem dX8_playedBy_59 : decode cX8_playedBy 59 = .ok (.if_icmp .ne 22, 3) := by decide +kernel
theorem dX8_playedBy_62 : decode cX8_playedBy 62 = .ok (.aload_n 0, 1) := by decide +kernel
theorem dX8_playedBy_63 : decode cX8_playedBy 63 = .ok (.bipush 7, 2) := by decide +kernel
theorem dX8_playedBy_65 : decode cX8_playedBy 65 = .ok (.iload_n 1, 1) := by decide +kernel
theorem dX8_playedBy_66 : decode cX8_playedBy 66 = .ok (.imul, 1) := by decide +kernel
theorem dX8_playedBy_67 : decode cX8_playedBy 67 = .ok (.invokevirtual 186, 3) := by decide +kernel
theorem dX8_playedBy_70 : decode cX8_playedBy 70 = .ok (.ifCond .le 7, 3) := by decide +kernel
theorem dX8_playedBy_73 : decode cX8_playedBy 73 = .ok (.iconst 1, 1) := by decide +kernel
theorem dX8_playedBy_74 : decode cX8_playedBy 74 = .ok (.goto 13, 3) := by decide +kernel
theorem dX8_playedBy_77 : decode cX8_playedBy 77 = .ok (.iconst 0, 1) := by decide +kernel
theorem dX8_playedBy_78 : decode cX8_playedBy 78 = .ok (.goto 9, 3) := by decide +kernel
theorem dX8_playedBy_81 : decode cX8_playedBy 81 = .ok (.aload_n 0, 1) := by decide +kernel
theorem dX8_playedBy_82 : decode cX8_playedBy 82 = .ok (.getfield 47, 3) := by decide +kernel
theorem dX8_playedBy_85 : decode cX8_playedBy 85 = .ok (.iload_n 2, 1) := by decide +kernel
theorem dX8_playedBy_86 : decode cX8_playedBy 86 = .ok (.iaload, 1) := by decide +kernel
theorem dX8_playedBy_87 : decode cX8_playedBy 87 = .ok (.istore_n 3, 1) := by decide +kernel
theorem dX8_playedBy_88 : decode cX8_playedBy 88 = .ok (.iinc 2 (-1), 3) := by decide +kernel
theorem dX8_playedBy_91 : decode cX8_playedBy 91 = .ok (.aload_n 0, 1) := by decide +kernel
theorem dX8_playedBy_92 : decode cX8_playedBy 92 = .ok (.iload_n 2, 1) := by decide +kernel
theorem dX8_playedBy_93 : decode cX8_playedBy 93 = .ok (.iload_n 3, 1) := by decide +kernel
theorem dX8_playedBy_94 : decode cX8_playedBy 94 = .ok (.invokevirtual 221, 3) := by decide +kernel
theorem dX8_playedBy_97 : decode cX8_playedBy 97 = .ok (.goto 53, 3) := by decide +kernel
theorem dX8_playedBy_100 : decode cX8_playedBy 100 = .ok (.aload_n 0, 1) := by decide +kernel
theorem dX8_playedBy_101 : decode cX8_playedBy 101 = .ok (.getfield 44, 3) := by decide +kernel
theorem dX8_playedBy_104 : decode cX8_playedBy 104 = .ok (.iload_n 2, 1) := by decide +kernel
theorem dX8_playedBy_105 : decode cX8_playedBy 105 = .ok (.iload 4, 2) := by decide +kernel
theorem dX8_playedBy_107 : decode cX8_playedBy 107 = .ok (.iastore, 1) := by decide +kernel
theorem dX8_playedBy_108 : decode cX8_playedBy 108 = .ok (.aload_n 0, 1) := by decide +kernel
theorem dX8_playedBy_109 : decode cX8_playedBy 109 = .ok (.bipush 7, 2) := by decide +kernel
theorem dX8_playedBy_111 : decode cX8_playedBy 111 = .ok (.iload_n 2, 1) := by decide +kernel
theorem dX8_playedBy_112 : decode cX8_playedBy 112 = .ok (.imul, 1) := by decide +kernel
theorem dX8_playedBy_113 : decode cX8_playedBy 113 = .ok (.iload 4, 2) := by decide +kernel
theorem dX8_playedBy_115 : decode cX8_playedBy 115 = .ok (.bipush 6, 2) := by decide +kernel
theorem dX8_playedBy_117 : decode cX8_playedBy 117 = .ok (.if_icmp .ne 8, 3) := by decide +kernel
theorem dX8_playedBy_120 : decode cX8_playedBy 120 = .ok (.bipush (-9), 2) := by decide +kernel
theorem dX8_playedBy_122 : decode cX8_playedBy 122 = .ok (.goto 5, 3) := by decide +kernel
theorem dX8_playedBy_125 : decode cX8_playedBy 125 = .ok (.iload 4, 2) := by decide +kernel
theorem dX8_playedBy_127 : decode cX8_playedBy 127 = .ok (.aload_n 0, 1) := by decide +kernel
theorem dX8_playedBy_128 : decode cX8_playedBy 128 = .ok (.getfield 22, 3) := by decide +kernel
theorem dX8_playedBy_131 : decode cX8_playedBy 131 = .ok (.bipush 7, 2) := by decide +kernel
theorem dX8_playedBy_133 : decode cX8_playedBy 133 = .ok (.iaload, 1) := by decide +kernel
theorem dX8_playedBy_134 : decode cX8_playedBy 134 = .ok (.invokevirtual 192, 3) := by decide +kernel
theorem dX8_playedBy_137 : decode cX8_playedBy 137 = .ok (.iinc 2 1, 3) := by decide +kernel
theorem dX8_playedBy_140 : decode cX8_playedBy 140 = .ok (.iload_n 2, 1) := by decide +kernel
theorem dX8_playedBy_141 : decode cX8_playedBy 141 = .ok (.iload_n 1, 1) := by decide +kernel
theorem dX8_playedBy_142 : decode cX8_playedBy 142 = .ok (.if_icmp .ge 8, 3) := by decide +kernel
theorem dX8_playedBy_145 : decode cX8_playedBy 145 = .ok (.aload_n 0, 1) := by decide +kernel
theorem dX8_playedBy_146 : decode cX8_playedBy 146 = .ok (.iload_n 2, 1) := by decide +kernel
theorem dX8_playedBy_147 : decode cX8_playedBy 147 = .ok (.invokevirtual 215, 3) := by decide +kernel
theorem dX8_playedBy_150 : decode cX8_playedBy 150 = .ok (.goto (-127), 3) := by decide +kernel
theorem dX8_playedBy_153 : decode cX8_playedBy 153 = .ok (.iload_n 3, 1) := by decide +kernel
theorem dX8_playedBy_154 : decode cX8_playedBy 154 = .ok (.ireturn, 1) := by decide +kernel
set_option maxRecDepth 20000 in
theorem ggX8_game_X8_in : GoodIn wsX8_game wsX8_in := goodIn_r _ [6] (by decide +kernel) (by decide +kernel)
set_option maxRecDepth 20000 in
theorem gX8_game_X8_in : GoodIn wsX8_game (va_wsS RX8 66 yX8_in wsX8_in) := goodIn_app (goodIn_of _ (by decide +kernel)) ggX8_game_X8_in
set_option maxRecDepth 20000 in
theorem ggX8_game_X8_playedBy : GoodIn wsX8_game wsX8_playedBy := goodIn_r _ [10, 2, 11, 12, 13, 14, 15, 16, 5, 17, 18, 19, 20, 21, 22, 23, 24, 25, 26, 27, 28, 29, 30, 31, 32, 33, 34, 35, 36, 37, 38, 39, 40, 41, 42, 43, 44, 45, 46, 47, 48, 49, 50, 51, 52, 53, 54, 55, 56, 57, 58, 59, 60, 61, 62, 63, 64, 65, 66, 67, 68, 69, 70, 71, 72, 73, 74, 75, 76, 77, 78, 79, 80, 81] (by decide +kernel) (by decide +kernel)
set_option maxRecDepth 20000 in
theorem gX8_game_X8_playedBy : GoodIn wsX8_game (wsV RX8 225 RX8 yX8_playedBy wsX8_playedBy) := goodIn_app (goodIn_of _ (by decide +kernel)) ggX8_game_X8_playedBy
theorem dX8_game_0 : decode cX8_game 0 = .ok (.aload_n 0, 1) := by decide +kernel
theorem dX8_game_1 : decode cX8_game 1 = .ok (.iconst 0, 1) := by decide +kernel
theorem dX8_game_2 : decode cX8_game 2 = .ok (.putfield 63, 3) := by decide +kernel
theorem dX8_game_5 : decode cX8_game 5 = .ok (.iload_n 1, 1) := by decide +kernel
theorem dX8_game_6 : decode cX8_game 6 = .ok (.iconst 0, 1) := by decide +kernel
theorem dX8_game_7 : decode cX8_game 7 = .ok (.iconst 5, 1) := by decide +kernel
theorem dX8_game_8 : decode cX8_game 8 = .ok (.invokestatic 66, 3) := by decide +kernel
theorem dX8_game_11 : decode cX8_game 11 = .ok (.ifCond .eq 12, 3) := by decide +kernel
theorem dX8_game_14 : decode cX8_game 14 = .ok (.iload_n 2, 1) := by decide +kernel
theorem dX8_game_15 : decode cX8_game 15 = .ok (.iconst 0, 1) := by decide +kernel
theorem dX8_game_16 : decode cX8_game 16 = .ok (.iconst 1, 1) := by decide +kernel
theorem dX8_game_17 : decode cX8_game 17 = .ok (.invokestatic 66, 3) := by decide +kernel
theorem dX8_game_20 : decode cX8_game 20 = .ok (.ifCond .ne 5, 3) := by decide +kernel
theorem dX8_game_23 : decode cX8_game 23 = .ok (.iconst (-1), 1) := by decide +kernel
theorem dX8_game_24 : decode cX8_game 24 = .ok (.ireturn, 1) := by decide +kernel
theorem dX8_game_25 : decode cX8_game 25 = .ok (.aload_n 0, 1) := by decide +kernel
theorem dX8_game_26 : decode cX8_game 26 = .ok (.iload_n 1, 1) := by decide +kernel
theorem dX8_game_27 : decode cX8_game 27 = .ok (.invokevirtual 225, 3) := by decide +kernel
theorem dX8_game_30 : decode cX8_game 30 = .ok (.istore_n 3, 1) := by decide +kernel
theorem dX8_game_31 : decode cX8_game 31 = .ok (.iload_n 2, 1) := by decide +kernel
theorem dX8_game_32 : decode cX8_game 32 = .ok (.ifCond .ne 7, 3) := by decide +kernel
theorem dX8_game_35 : decode cX8_game 35 = .ok (.iload_n 3, 1) := by decide +kernel
theorem dX8_game_36 : decode cX8_game 36 = .ok (.goto 21, 3) := by decide +kernel
theorem dX8_game_39 : decode cX8_game 39 = .ok (.aload_n 0, 1) := by decide +kernel
theorem dX8_game_40 : decode cX8_game 40 = .ok (.getfield 212, 3) := by decide +kernel
theorem dX8_game_43 : decode cX8_game 43 = .ok (.bipush 6, 2) := by decide +kernel
theorem dX8_game_45 : decode cX8_game 45 = .ok (.if_icmp .ne 8, 3) := by decide +kernel
theorem dX8_game_48 : decode cX8_game 48 = .ok (.bipush (-9), 2) := by decide +kernel
theorem dX8_game_50 : decode cX8_game 50 = .ok (.goto 7, 3) := by decide +kernel
theorem dX8_game_53 : decode cX8_game 53 = .ok (.aload_n 0, 1) := by decide +kernel
theorem dX8_game_54 : decode cX8_game 54 = .ok (.getfield 212, 3) := by decide +kernel
theorem dX8_game_57 : decode cX8_game 57 = .ok (.ireturn, 1) := by decide +kernel
set_option maxRecDepth 20000 in
theorem ggX8_saw_X8_in : GoodIn wsX8_saw wsX8_in := goodIn_r _ [9] (by decide +kernel) (by decide +kernel)
set_option maxRecDepth 20000 in
theorem gX8_saw_X8_in : GoodIn wsX8_saw (va_wsS RX8 66 yX8_in wsX8_in) := goodIn_app (goodIn_of _ (by decide +kernel)) ggX8_saw_X8_in
theorem dX8_saw_0 : decode cX8_saw 0 = .ok (.aload_n 0, 1) := by decide +kernel
theorem dX8_saw_1 : decode cX8_saw 1 = .ok (.iconst 0, 1) := by decide +kernel
theorem dX8_saw_2 : decode cX8_saw 2 = .ok (.putfield 63, 3) := by decide +kernel
theorem dX8_saw_5 : decode cX8_saw 5 = .ok (.iload_n 1, 1) := by decide +kernel
theorem dX8_saw_6 : decode cX8_saw 6 = .ok (.iconst 0, 1) := by decide +kernel
theorem dX8_saw_7 : decode cX8_saw 7 = .ok (.iconst 5, 1) := by decide +kernel
theorem dX8_saw_8 : decode cX8_saw 8 = .ok (.invokestatic 66, 3) := by decide +kernel
theorem dX8_saw_11 : decode cX8_saw 11 = .ok (.ifCond .eq 19, 3) := by decide +kernel
theorem dX8_saw_14 : decode cX8_saw 14 = .ok (.iload_n 2, 1) := by decide +kernel
theorem dX8_saw_15 : decode cX8_saw 15 = .ok (.iconst 0, 1) := by decide +kernel
theorem dX8_saw_16 : decode cX8_saw 16 = .ok (.iconst 1, 1) := by decide +kernel
theorem dX8_saw_17 : decode cX8_saw 17 = .ok (.aload_n 0, 1) := by decide +kernel
theorem dX8_saw_18 : decode cX8_saw 18 = .ok (.getfield 145, 3) := by decide +kernel
theorem dX8_saw_21 : decode cX8_saw 21 = .ok (.ishl, 1) := by decide +kernel
theorem dX8_saw_22 : decode cX8_saw 22 = .ok (.iconst 1, 1) := by decide +kernel
theorem dX8_saw_23 : decode cX8_saw 23 = .ok (.isub, 1) := by decide +kernel
theorem dX8_saw_24 : decode cX8_saw 24 = .ok (.invokestatic 66, 3) := by decide +kernel
theorem dX8_saw_27 : decode cX8_saw 27 = .ok (.ifCond .ne 5, 3) := by decide +kernel
theorem dX8_saw_30 : decode cX8_saw 30 = .ok (.iconst (-1), 1) := by decide +kernel
theorem dX8_saw_31 : decode cX8_saw 31 = .ok (.ireturn, 1) := by decide +kernel
theorem dX8_saw_32 : decode cX8_saw 32 = .ok (.aload_n 0, 1) := by decide +kernel
theorem dX8_saw_33 : decode cX8_saw 33 = .ok (.getfield 154, 3) := by decide +kernel
theorem dX8_saw_36 : decode cX8_saw 36 = .ok (.bipush 6, 2) := by decide +kernel
theorem dX8_saw_38 : decode cX8_saw 38 = .ok (.if_icmp .ne 6, 3) := by decide +kernel
theorem dX8_saw_41 : decode cX8_saw 41 = .ok (.bipush (-3), 2) := by decide +kernel
theorem dX8_saw_43 : decode cX8_saw 43 = .ok (.ireturn, 1) := by decide +kernel
theorem dX8_saw_44 : decode cX8_saw 44 = .ok (.aload_n 0, 1) := by decide +kernel
theorem dX8_saw_45 : decode cX8_saw 45 = .ok (.getfield 35, 3) := by decide +kernel
theorem dX8_saw_48 : decode cX8_saw 48 = .ok (.aload_n 0, 1) := by decide +kernel
theorem dX8_saw_49 : decode cX8_saw 49 = .ok (.getfield 154, 3) := by decide +kernel
theorem dX8_saw_52 : decode cX8_saw 52 = .ok (.iload_n 1, 1) := by decide +kernel
theorem dX8_saw_53 : decode cX8_saw 53 = .ok (.iastore, 1) := by decide +kernel
theorem dX8_saw_54 : decode cX8_saw 54 = .ok (.aload_n 0, 1) := by decide +kernel
theorem dX8_saw_55 : decode cX8_saw 55 = .ok (.getfield 38, 3) := by decide +kernel
theorem dX8_saw_58 : decode cX8_saw 58 = .ok (.aload_n 0, 1) := by decide +kernel
theorem dX8_saw_59 : decode cX8_saw 59 = .ok (.getfield 154, 3) := by decide +kernel
theorem dX8_saw_62 : decode cX8_saw 62 = .ok (.iload_n 2, 1) := by decide +kernel
theorem dX8_saw_63 : decode cX8_saw 63 = .ok (.iastore, 1) := by decide +kernel
theorem dX8_saw_64 : decode cX8_saw 64 = .ok (.aload_n 0, 1) := by decide +kernel
theorem dX8_saw_65 : decode cX8_saw 65 = .ok (.dup, 1) := by decide +kernel
theorem dX8_saw_66 : decode cX8_saw 66 = .ok (.getfield 154, 3) := by decide +kernel
theorem dX8_saw_69 : decode cX8_saw 69 = .ok (.iconst 1, 1) := by decide +kernel
theorem dX8_saw_70 : decode cX8_saw 70 = .ok (.iadd, 1) := by decide +kernel
theorem dX8_saw_71 : decode cX8_saw 71 = .ok (.putfield 154, 3) := by decide +kernel
theorem dX8_saw_74 : decode cX8_saw 74 = .ok (.aload_n 0, 1) := by decide +kernel
theorem dX8_saw_75 : decode cX8_saw 75 = .ok (.getfield 154, 3) := by decide +kernel
theorem dX8_saw_78 : decode cX8_saw 78 = .ok (.ireturn, 1) := by decide +kernel
theorem dX8_forget_0 : decode cX8_forget 0 = .ok (.aload_n 0, 1) := by decide +kernel
theorem dX8_forget_1 : decode cX8_forget 1 = .ok (.iconst 0, 1) := by decide +kernel
theorem dX8_forget_2 : decode cX8_forget 2 = .ok (.putfield 63, 3) := by decide +kernel
theorem dX8_forget_5 : decode cX8_forget 5 = .ok (.aload_n 0, 1) := by decide +kernel
theorem dX8_forget_6 : decode cX8_forget 6 = .ok (.getfield 154, 3) := by decide +kernel
theorem dX8_forget_9 : decode cX8_forget 9 = .ok (.istore_n 1, 1) := by decide +kernel
theorem dX8_forget_10 : decode cX8_forget 10 = .ok (.aload_n 0, 1) := by decide +kernel
theorem dX8_forget_11 : decode cX8_forget 11 = .ok (.iconst 0, 1) := by decide +kernel
theorem dX8_forget_12 : decode cX8_forget 12 = .ok (.putfield 154, 3) := by decide +kernel
theorem dX8_forget_15 : decode cX8_forget 15 = .ok (.iload_n 1, 1) := by decide +kernel
theorem dX8_forget_16 : decode cX8_forget 16 = .ok (.ireturn, 1) := by decide +kernel
theorem dX8_isAsSeen_0 : decode cX8_isAsSeen 0 = .ok (.iconst 1, 1) := by decide +kernel
theorem dX8_isAsSeen_1 : decode cX8_isAsSeen 1 = .ok (.istore_n 2, 1) := by decide +kernel
theorem dX8_isAsSeen_2 : decode cX8_isAsSeen 2 = .ok (.iconst 0, 1) := by decide +kernel
theorem dX8_isAsSeen_3 : decode cX8_isAsSeen 3 = .ok (.istore_n 3, 1) := by decide +kernel
theorem dX8_isAsSeen_4 : decode cX8_isAsSeen 4 = .ok (.iload_n 3, 1) := by decide +kernel
theorem dX8_isAsSeen_5 : decode cX8_isAsSeen 5 = .ok (.aload_n 0, 1) := by decide +kernel
theorem dX8_isAsSeen_6 : decode cX8_isAsSeen 6 = .ok (.getfield 154, 3) := by decide +kernel
theorem dX8_isAsSeen_9 : decode cX8_isAsSeen 9 = .ok (.if_icmp .ge 95, 3) := by decide +kernel
theorem dX8_isAsSeen_12 : decode cX8_isAsSeen 12 = .ok (.iconst 0, 1) := by decide +kernel
theorem dX8_isAsSeen_13 : decode cX8_isAsSeen 13 = .ok (.istore 4, 2) := by decide +kernel
theorem dX8_isAsSeen_15 : decode cX8_isAsSeen 15 = .ok (.iload 4, 2) := by decide +kernel
theorem dX8_isAsSeen_17 : decode cX8_isAsSeen 17 = .ok (.aload_n 0, 1) := by decide +kernel
theorem dX8_isAsSeen_18 : decode cX8_isAsSeen 18 = .ok (.getfield 145, 3) := by decide +kernel
theorem dX8_isAsSeen_21 : decode cX8_isAsSeen 21 = .ok (.if_icmp .ge 77, 3) := by decide +kernel
theorem dX8_isAsSeen_24 : decode cX8_isAsSeen 24 = .ok (.aload_n 0, 1) := by decide +kernel
theorem dX8_isAsSeen_25 : decode cX8_isAsSeen 25 = .ok (.getfield 35, 3) := by decide +kernel
theorem dX8_isAsSeen_28 : decode cX8_isAsSeen 28 = .ok (.iload_n 3, 1) := by decide +kernel
theorem dX8_isAsSeen_29 : decode cX8_isAsSeen 29 = .ok (.iaload, 1) := by decide +kernel
theorem dX8_isAsSeen_30 : decode cX8_isAsSeen 30 = .ok (.iload_n 1, 1) := by decide +kernel
theorem dX8_isAsSeen_31 : decode cX8_isAsSeen 31 = .ok (.if_icmp .gt 67, 3) := by decide +kernel
theorem dX8_isAsSeen_34 : decode cX8_isAsSeen 34 = .ok (.iload_n 2, 1) := by decide +kernel
theorem dX8_isAsSeen_35 : decode cX8_isAsSeen 35 = .ok (.ifCond .eq 55, 3) := by decide +kernel
theorem dX8_isAsSeen_38 : decode cX8_isAsSeen 38 = .ok (.aload_n 0, 1) := by decide +kernel
theorem dX8_isAsSeen_39 : decode cX8_isAsSeen 39 = .ok (.getfield 41, 3) := by decide +kernel
theorem dX8_isAsSeen_42 : decode cX8_isAsSeen 42 = .ok (.bipush 7, 2) := by decide +kernel
theorem dX8_isAsSeen_44 : decode cX8_isAsSeen 44 = .ok (.aload_n 0, 1) := by decide +kernel
theorem dX8_isAsSeen_45 : decode cX8_isAsSeen 45 = .ok (.getfield 35, 3) := by decide +kernel
theorem dX8_isAsSeen_48 : decode cX8_isAsSeen 48 = .ok (.iload_n 3, 1) := by decide +kernel
theorem dX8_isAsSeen_49 : decode cX8_isAsSeen 49 = .ok (.iaload, 1) := by decide +kernel
theorem dX8_isAsSeen_50 : decode cX8_isAsSeen 50 = .ok (.imul, 1) := by decide +kernel
theorem dX8_isAsSeen_51 : decode cX8_isAsSeen 51 = .ok (.iload 4, 2) := by decide +kernel
theorem dX8_isAsSeen_53 : decode cX8_isAsSeen 53 = .ok (.iadd, 1) := by decide +kernel
theorem dX8_isAsSeen_54 : decode cX8_isAsSeen 54 = .ok (.iaload, 1) := by decide +kernel
theorem dX8_isAsSeen_55 : decode cX8_isAsSeen 55 = .ok (.ifCond .ne 7, 3) := by decide +kernel
theorem dX8_isAsSeen_58 : decode cX8_isAsSeen 58 = .ok (.iconst 1, 1) := by decide +kernel
theorem dX8_isAsSeen_59 : decode cX8_isAsSeen 59 = .ok (.goto 4, 3) := by decide +kernel
theorem dX8_isAsSeen_62 : decode cX8_isAsSeen 62 = .ok (.iconst 0, 1) := by decide +kernel
theorem dX8_isAsSeen_63 : decode cX8_isAsSeen 63 = .ok (.aload_n 0, 1) := by decide +kernel
theorem dX8_isAsSeen_64 : decode cX8_isAsSeen 64 = .ok (.getfield 38, 3) := by decide +kernel
theorem dX8_isAsSeen_67 : decode cX8_isAsSeen 67 = .ok (.iload_n 3, 1) := by decide +kernel
theorem dX8_isAsSeen_68 : decode cX8_isAsSeen 68 = .ok (.iaload, 1) := by decide +kernel
theorem dX8_isAsSeen_69 : decode cX8_isAsSeen 69 = .ok (.iload 4, 2) := by decide +kernel
theorem dX8_isAsSeen_71 : decode cX8_isAsSeen 71 = .ok (.ishr, 1) := by decide +kernel
theorem dX8_isAsSeen_72 : decode cX8_isAsSeen 72 = .ok (.iconst 1, 1) := by decide +kernel
theorem dX8_isAsSeen_73 : decode cX8_isAsSeen 73 = .ok (.iand, 1) := by decide +kernel
theorem dX8_isAsSeen_74 : decode cX8_isAsSeen 74 = .ok (.iconst 1, 1) := by decide +kernel
theorem dX8_isAsSeen_75 : decode cX8_isAsSeen 75 = .ok (.if_icmp .ne 7, 3) := by decide +kernel
theorem dX8_isAsSeen_78 : decode cX8_isAsSeen 78 = .ok (.iconst 1, 1) := by decide +kernel
theorem dX8_isAsSeen_79 : decode cX8_isAsSeen 79 = .ok (.goto 4, 3) := by decide +kernel
theorem dX8_isAsSeen_82 : decode cX8_isAsSeen 82 = .ok (.iconst 0, 1) := by decide +kernel
theorem dX8_isAsSeen_83 : decode cX8_isAsSeen 83 = .ok (.if_icmp .ne 7, 3) := by decide +kernel
theorem dX8_isAsSeen_86 : decode cX8_isAsSeen 86 = .ok (.iconst 1, 1) := by decide +kernel
theorem dX8_isAsSeen_87 : decode cX8_isAsSeen 87 = .ok (.goto 4, 3) := by decide +kernel
theorem dX8_isAsSeen_90 : decode cX8_isAsSeen 90 = .ok (.iconst 0, 1) := by decide +kernel
theorem dX8_isAsSeen_91 : decode cX8_isAsSeen 91 = .ok (.istore_n 2, 1) := by decide +kernel
theorem dX8_isAsSeen_92 : decode cX8_isAsSeen 92 = .ok (.iinc 4 1, 3) := by decide +kernel
theorem dX8_isAsSeen_95 : decode cX8_isAsSeen 95 = .ok (.goto (-80), 3) := by decide +kernel
theorem dX8_isAsSeen_98 : decode cX8_isAsSeen 98 = .ok (.iinc 3 1, 3) := by decide +kernel
theorem dX8_isAsSeen_101 : decode cX8_isAsSeen 101 = .ok (.goto (-97), 3) := by decide +kernel
theorem dX8_isAsSeen_104 : decode cX8_isAsSeen 104 = .ok (.iload_n 2, 1) := by decide +kernel
theorem dX8_isAsSeen_105 : decode cX8_isAsSeen 105 = .ok (.ireturn, 1) := by decide +kernel
set_option maxRecDepth 20000 in
theorem ggX8_fits_X8_in : GoodIn wsX8_fits wsX8_in := goodIn_r _ [9] (by decide +kernel) (by decide +kernel)
set_option maxRecDepth 20000 in
theorem gX8_fits_X8_in : GoodIn wsX8_fits (va_wsS RX8 66 yX8_in wsX8_in) := goodIn_app (goodIn_of _ (by decide +kernel)) ggX8_fits_X8_in
set_option maxRecDepth 20000 in
theorem ggX8_fits_X8_plans : GoodIn wsX8_fits wsX8_plans := goodIn_r _ [13, 3, 14, 15, 8, 16, 39, 40, 41, 42, 43, 44, 45, 46, 47, 48, 49, 50, 51, 52, 53, 54, 55, 56, 57, 58, 59, 60, 61, 62, 63, 64, 65, 66, 67, 68, 69, 70, 71, 72, 73] (by decide +kernel) (by decide +kernel)
set_option maxRecDepth 20000 in
theorem gX8_fits_X8_plans : GoodIn wsX8_fits (wsV RX8 196 RX8 yX8_plans wsX8_plans) := goodIn_app (goodIn_of _ (by decide +kernel)) ggX8_fits_X8_plans
set_option maxRecDepth 20000 in
theorem ggX8_fits_X8_isPlan : GoodIn wsX8_fits wsX8_isPlan := goodIn_r _ [20, 3, 2, 21, 14, 15, 8, 16, 22, 23, 24, 25, 26, 27, 28, 29, 30, 31, 39, 40, 41, 42, 43, 44, 45, 46, 47, 48, 49, 50, 51, 52, 53, 54, 55, 56, 57, 58, 59, 60, 61, 62, 63, 64, 65, 66, 67, 68, 69, 70, 71, 72, 73] (by decide +kernel) (by decide +kernel)
set_option maxRecDepth 20000 in
theorem gX8_fits_X8_isPlan : GoodIn wsX8_fits (wsV RX8 199 RX8 yX8_isPlan wsX8_isPlan) := goodIn_app (goodIn_of _ (by decide +kernel)) ggX8_fits_X8_isPlan
set_option maxRecDepth 20000 in
theorem ggX8_fits_X8_isAsSeen : GoodIn wsX8_fits wsX8_isAsSeen := goodIn_r _ [35, 36, 3, 37, 2, 38, 39, 40, 41, 42, 43, 44, 45, 46, 47, 48, 49, 50, 51, 52, 53, 54, 55, 56, 57, 58, 59, 60, 61, 62, 63, 64, 65, 66, 67, 68, 69, 70, 71, 72, 73] (by decide +kernel) (by decide +kernel)
set_option maxRecDepth 20000 in
theorem gX8_fits_X8_isAsSeen : GoodIn wsX8_fits (wsV RX8 228 RX8 yX8_isAsSeen wsX8_isAsSeen) := goodIn_app (goodIn_of _ (by decide +kernel)) ggX8_fits_X8_isAsSeen
theorem dX8_fits_0 : decode cX8_fits 0 = .ok (.aload_n 0, 1) := by decide +kernel
theorem dX8_fits_1 : decode cX8_fits 1 = .ok (.iconst 0, 1) := by decide +kernel
theorem dX8_fits_2 : decode cX8_fits 2 = .ok (.putfield 63, 3) := by decide +kernel
theorem dX8_fits_5 : decode cX8_fits 5 = .ok (.iload_n 1, 1) := by decide +kernel
theorem dX8_fits_6 : decode cX8_fits 6 = .ok (.iconst 0, 1) := by decide +kernel
theorem dX8_fits_7 : decode cX8_fits 7 = .ok (.iconst 5, 1) := by decide +kernel
theorem dX8_fits_8 : decode cX8_fits 8 = .ok (.invokestatic 66, 3) := by decide +kernel
theorem dX8_fits_11 : decode cX8_fits 11 = .ok (.ifCond .ne 5, 3) := by decide +kernel
theorem dX8_fits_14 : decode cX8_fits 14 = .ok (.iconst (-1), 1) := by decide +kernel
theorem dX8_fits_15 : decode cX8_fits 15 = .ok (.ireturn, 1) := by decide +kernel
theorem dX8_fits_16 : decode cX8_fits 16 = .ok (.iconst 0, 1) := by decide +kernel
theorem dX8_fits_17 : decode cX8_fits 17 = .ok (.istore_n 2, 1) := by decide +kernel
theorem dX8_fits_18 : decode cX8_fits 18 = .ok (.iload_n 2, 1) := by decide +kernel
theorem dX8_fits_19 : decode cX8_fits 19 = .ok (.bipush 6, 2) := by decide +kernel
theorem dX8_fits_21 : decode cX8_fits 21 = .ok (.if_icmp .ge 33, 3) := by decide +kernel
theorem dX8_fits_24 : decode cX8_fits 24 = .ok (.aload_n 0, 1) := by decide +kernel
theorem dX8_fits_25 : decode cX8_fits 25 = .ok (.getfield 41, 3) := by decide +kernel
theorem dX8_fits_28 : decode cX8_fits 28 = .ok (.iload_n 2, 1) := by decide +kernel
theorem dX8_fits_29 : decode cX8_fits 29 = .ok (.iload_n 2, 1) := by decide +kernel
theorem dX8_fits_30 : decode cX8_fits 30 = .ok (.aload_n 0, 1) := by decide +kernel
theorem dX8_fits_31 : decode cX8_fits 31 = .ok (.getfield 145, 3) := by decide +kernel
theorem dX8_fits_34 : decode cX8_fits 34 = .ok (.if_icmp .ge 12, 3) := by decide +kernel
theorem dX8_fits_37 : decode cX8_fits 37 = .ok (.aload_n 0, 1) := by decide +kernel
theorem dX8_fits_38 : decode cX8_fits 38 = .ok (.getfield 13, 3) := by decide +kernel
theorem dX8_fits_41 : decode cX8_fits 41 = .ok (.iload_n 2, 1) := by decide +kernel
theorem dX8_fits_42 : decode cX8_fits 42 = .ok (.iaload, 1) := by decide +kernel
theorem dX8_fits_43 : decode cX8_fits 43 = .ok (.goto 4, 3) := by decide +kernel
theorem dX8_fits_46 : decode cX8_fits 46 = .ok (.iconst 0, 1) := by decide +kernel
theorem dX8_fits_47 : decode cX8_fits 47 = .ok (.iastore, 1) := by decide +kernel
theorem dX8_fits_48 : decode cX8_fits 48 = .ok (.iinc 2 1, 3) := by decide +kernel
theorem dX8_fits_51 : decode cX8_fits 51 = .ok (.goto (-33), 3) := by decide +kernel
theorem dX8_fits_54 : decode cX8_fits 54 = .ok (.aload_n 0, 1) := by decide +kernel
theorem dX8_fits_55 : decode cX8_fits 55 = .ok (.getfield 41, 3) := by decide +kernel
theorem dX8_fits_58 : decode cX8_fits 58 = .ok (.bipush 6, 2) := by decide +kernel
theorem dX8_fits_60 : decode cX8_fits 60 = .ok (.bipush (-9), 2) := by decide +kernel
theorem dX8_fits_62 : decode cX8_fits 62 = .ok (.iastore, 1) := by decide +kernel
theorem dX8_fits_63 : decode cX8_fits 63 = .ok (.iconst 0, 1) := by decide +kernel
theorem dX8_fits_64 : decode cX8_fits 64 = .ok (.istore_n 2, 1) := by decide +kernel
