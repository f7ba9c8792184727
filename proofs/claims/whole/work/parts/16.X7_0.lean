set_option maxRecDepth 20000 in
theorem ggX7_init_X6_init : GoodIn wsX7_init wsX6_init := goodIn_r _ [30, 31, 2, 3, 32, 33, 77, 78, 79, 80, 81, 82, 83] (by decide +kernel) (by decide +kernel)
set_option maxRecDepth 20000 in
theorem gX7_init_X6_init_n9 : GoodIn wsX7_init (wsX6_init) := ggX7_init_X6_init
set_option maxRecDepth 20000 in
theorem ggX7_init_X2_init : GoodIn wsX7_init wsX2_init := goodIn_r _ [36, 37, 2, 3, 38, 39, 40, 10, 41, 42, 43, 44, 45, 46, 47, 48, 49, 92, 93, 94, 95, 96, 97, 98, 99] (by decide +kernel) (by decide +kernel)
set_option maxRecDepth 20000 in
theorem gX7_init_X2_init : GoodIn wsX7_init (wsX2_init) := ggX7_init_X2_init
set_option maxRecDepth 20000 in
theorem ggX7_init_X1_init : GoodIn wsX7_init wsX1_init := goodIn_r _ [51, 52, 2, 3, 53, 54, 100, 101, 102, 103, 104] (by decide +kernel) (by decide +kernel)
set_option maxRecDepth 20000 in
theorem gX7_init_X1_init_n28 : GoodIn wsX7_init (wsX1_init) := ggX7_init_X1_init
set_option maxRecDepth 20000 in
theorem ggX7_init_X3_init : GoodIn wsX7_init wsX3_init := goodIn_r _ [57, 58, 2, 3, 59, 60, 14, 15, 50, 51, 52, 53, 54, 105, 106, 100, 101, 102, 103, 104] (by decide +kernel) (by decide +kernel)
set_option maxRecDepth 20000 in
theorem gX7_init_X3_init : GoodIn wsX7_init (wsX3_init) := ggX7_init_X3_init
set_option maxRecDepth 20000 in
theorem ggX7_init_X5_init : GoodIn wsX7_init wsX5_init := goodIn_r _ [62, 63, 2, 3, 64, 65, 66, 107, 108, 109] (by decide +kernel) (by decide +kernel)
set_option maxRecDepth 20000 in
theorem gX7_init_X5_init_n42 : GoodIn wsX7_init (wsX5_init) := ggX7_init_X5_init
set_option maxRecDepth 20000 in
theorem ggX7_init_X0_init : GoodIn wsX7_init wsX0_init := goodIn_r _ [68, 69, 2, 3, 70, 14, 15, 71, 50, 51, 52, 53, 54, 100, 101, 102, 103, 104, 110, 111] (by decide +kernel) (by decide +kernel)
set_option maxRecDepth 20000 in
theorem gX7_init_X0_init_n53 : GoodIn wsX7_init (wsX0_init) := ggX7_init_X0_init
set_option maxRecDepth 20000 in
theorem ggX7_init_X7_beginAnew : GoodIn wsX7_init wsX7_beginAnew := goodIn_r _ [76, 16, 11, 20, 24, 26, 84, 85, 86, 87, 88, 89, 90, 91, 92, 93, 94, 95, 96, 97, 98, 99, 100, 101, 102, 103, 104, 105, 106, 107, 108, 109, 110, 111] (by decide +kernel) (by decide +kernel)
set_option maxRecDepth 20000 in
theorem gX7_init_X7_beginAnew : GoodIn wsX7_init (wsV RX7 54 RX7 yX7_beginAnew wsX7_beginAnew) := goodIn_app (goodIn_of _ (by decide +kernel)) ggX7_init_X7_beginAnew
theorem dX7_init_0 : decode cX7_init 0 = .ok (.aload_n 0, 1) := by decide +kernel
theorem dX7_init_1 : decode cX7_init 1 = .ok (.invokespecial 1, 3) := by decide +kernel
theorem dX7_init_4 : decode cX7_init 4 = .ok (.aload_n 0, 1) := by decide +kernel
theorem dX7_init_5 : decode cX7_init 5 = .ok (.new 7, 3) := by decide +kernel
theorem dX7_init_8 : decode cX7_init 8 = .ok (.dup, 1) := by decide +kernel
theorem dX7_init_9 : decode cX7_init 9 = .ok (.invokespecial 9, 3) := by decide +kernel
theorem dX7_init_12 : decode cX7_init 12 = .ok (.putfield 10, 3) := by decide +kernel
theorem dX7_init_15 : decode cX7_init 15 = .ok (.aload_n 0, 1) := by decide +kernel
theorem dX7_init_16 : decode cX7_init 16 = .ok (.new 16, 3) := by decide +kernel
theorem dX7_init_19 : decode cX7_init 19 = .ok (.dup, 1) := by decide +kernel
theorem dX7_init_20 : decode cX7_init 20 = .ok (.invokespecial 18, 3) := by decide +kernel
theorem dX7_init_23 : decode cX7_init 23 = .ok (.putfield 19, 3) := by decide +kernel
theorem dX7_init_26 : decode cX7_init 26 = .ok (.aload_n 0, 1) := by decide +kernel
theorem dX7_init_27 : decode cX7_init 27 = .ok (.new 16, 3) := by decide +kernel
theorem dX7_init_30 : decode cX7_init 30 = .ok (.dup, 1) := by decide +kernel
theorem dX7_init_31 : decode cX7_init 31 = .ok (.invokespecial 18, 3) := by decide +kernel
theorem dX7_init_34 : decode cX7_init 34 = .ok (.putfield 23, 3) := by decide +kernel
theorem dX7_init_37 : decode cX7_init 37 = .ok (.aload_n 0, 1) := by decide +kernel
theorem dX7_init_38 : decode cX7_init 38 = .ok (.new 26, 3) := by decide +kernel
theorem dX7_init_41 : decode cX7_init 41 = .ok (.dup, 1) := by decide +kernel
theorem dX7_init_42 : decode cX7_init 42 = .ok (.invokespecial 28, 3) := by decide +kernel
theorem dX7_init_45 : decode cX7_init 45 = .ok (.putfield 29, 3) := by decide +kernel
theorem dX7_init_48 : decode cX7_init 48 = .ok (.aload_n 0, 1) := by decide +kernel
theorem dX7_init_49 : decode cX7_init 49 = .ok (.new 33, 3) := by decide +kernel
theorem dX7_init_52 : decode cX7_init 52 = .ok (.dup, 1) := by decide +kernel
theorem dX7_init_53 : decode cX7_init 53 = .ok (.invokespecial 35, 3) := by decide +kernel
theorem dX7_init_56 : decode cX7_init 56 = .ok (.putfield 36, 3) := by decide +kernel
theorem dX7_init_59 : decode cX7_init 59 = .ok (.aload_n 0, 1) := by decide +kernel
theorem dX7_init_60 : decode cX7_init 60 = .ok (.new 40, 3) := by decide +kernel
theorem dX7_init_63 : decode cX7_init 63 = .ok (.dup, 1) := by decide +kernel
theorem dX7_init_64 : decode cX7_init 64 = .ok (.invokespecial 42, 3) := by decide +kernel
theorem dX7_init_67 : decode cX7_init 67 = .ok (.putfield 43, 3) := by decide +kernel
theorem dX7_init_70 : decode cX7_init 70 = .ok (.aload_n 0, 1) := by decide +kernel
theorem dX7_init_71 : decode cX7_init 71 = .ok (.iconst 2, 1) := by decide +kernel
theorem dX7_init_72 : decode cX7_init 72 = .ok (.anewarray 47, 3) := by decide +kernel
theorem dX7_init_75 : decode cX7_init 75 = .ok (.putfield 49, 3) := by decide +kernel
theorem dX7_init_78 : decode cX7_init 78 = .ok (.iconst 0, 1) := by decide +kernel
theorem dX7_init_79 : decode cX7_init 79 = .ok (.istore_n 1, 1) := by decide +kernel
theorem dX7_init_80 : decode cX7_init 80 = .ok (.iload_n 1, 1) := by decide +kernel
theorem dX7_init_81 : decode cX7_init 81 = .ok (.aload_n 0, 1) := by decide +kernel
theorem dX7_init_82 : decode cX7_init 82 = .ok (.getfield 49, 3) := by decide +kernel
theorem dX7_init_85 : decode cX7_init 85 = .ok (.arraylength, 1) := by decide +kernel
theorem dX7_init_86 : decode cX7_init 86 = .ok (.if_icmp .ge 22, 3) := by decide +kernel
theorem dX7_init_89 : decode cX7_init 89 = .ok (.aload_n 0, 1) := by decide +kernel
theorem dX7_init_90 : decode cX7_init 90 = .ok (.getfield 49, 3) := by decide +kernel
theorem dX7_init_93 : decode cX7_init 93 = .ok (.iload_n 1, 1) := by decide +kernel
theorem dX7_init_94 : decode cX7_init 94 = .ok (.new 47, 3) := by decide +kernel
theorem dX7_init_97 : decode cX7_init 97 = .ok (.dup, 1) := by decide +kernel
theorem dX7_init_98 : decode cX7_init 98 = .ok (.invokespecial 53, 3) := by decide +kernel
theorem dX7_init_101 : decode cX7_init 101 = .ok (.aastore, 1) := by decide +kernel
theorem dX7_init_102 : decode cX7_init 102 = .ok (.iinc 1 1, 3) := by decide +kernel
theorem dX7_init_105 : decode cX7_init 105 = .ok (.goto (-25), 3) := by decide +kernel
theorem dX7_init_108 : decode cX7_init 108 = .ok (.aload_n 0, 1) := by decide +kernel
theorem dX7_init_109 : decode cX7_init 109 = .ok (.invokevirtual 54, 3) := by decide +kernel
theorem dX7_init_112 : decode cX7_init 112 = .ok (.return_, 1) := by decide +kernel
set_option maxRecDepth 20000 in
theorem ggX7_type_X6_hasRoomFor : GoodIn wsX7_type wsX6_hasRoomFor := goodIn_r _ [6, 7, 8, 21, 22, 23, 24, 25, 26, 27] (by decide +kernel) (by decide +kernel)
set_option maxRecDepth 20000 in
theorem gX7_type_X6_hasRoomFor : GoodIn wsX7_type (wsV RX7 57 RX6 yX6_hasRoomFor wsX6_hasRoomFor) := goodIn_app (goodIn_of _ (by decide +kernel)) ggX7_type_X6_hasRoomFor
set_option maxRecDepth 20000 in
theorem ggX7_type_X6_add : GoodIn wsX7_type wsX6_add := goodIn_r _ [12, 7, 8, 21, 22, 23, 24, 25, 26, 27] (by decide +kernel) (by decide +kernel)
set_option maxRecDepth 20000 in
theorem gX7_type_X6_add : GoodIn wsX7_type (wsV RX7 61 RX6 yX6_add wsX6_add) := goodIn_app (goodIn_of _ (by decide +kernel)) ggX7_type_X6_add
theorem dX7_type_0 : decode cX7_type 0 = .ok (.iload_n 3, 1) := by decide +kernel
theorem dX7_type_1 : decode cX7_type 1 = .ok (.iconst 1, 1) := by decide +kernel
theorem dX7_type_2 : decode cX7_type 2 = .ok (.if_icmp .lt 9, 3) := by decide +kernel
theorem dX7_type_5 : decode cX7_type 5 = .ok (.iload_n 3, 1) := by decide +kernel
theorem dX7_type_6 : decode cX7_type 6 = .ok (.bipush 8, 2) := by decide +kernel
theorem dX7_type_8 : decode cX7_type 8 = .ok (.if_icmp .le 5, 3) := by decide +kernel
theorem dX7_type_11 : decode cX7_type 11 = .ok (.iconst (-1), 1) := by decide +kernel
theorem dX7_type_12 : decode cX7_type 12 = .ok (.ireturn, 1) := by decide +kernel
theorem dX7_type_13 : decode cX7_type 13 = .ok (.aload_n 0, 1) := by decide +kernel
theorem dX7_type_14 : decode cX7_type 14 = .ok (.getfield 10, 3) := by decide +kernel
theorem dX7_type_17 : decode cX7_type 17 = .ok (.iload_n 3, 1) := by decide +kernel
theorem dX7_type_18 : decode cX7_type 18 = .ok (.invokevirtual 57, 3) := by decide +kernel
theorem dX7_type_21 : decode cX7_type 21 = .ok (.ifCond .ne 6, 3) := by decide +kernel
theorem dX7_type_24 : decode cX7_type 24 = .ok (.bipush (-3), 2) := by decide +kernel
theorem dX7_type_26 : decode cX7_type 26 = .ok (.ireturn, 1) := by decide +kernel
theorem dX7_type_27 : decode cX7_type 27 = .ok (.iload_n 3, 1) := by decide +kernel
theorem dX7_type_28 : decode cX7_type 28 = .ok (.iconst 1, 1) := by decide +kernel
theorem dX7_type_29 : decode cX7_type 29 = .ok (.isub, 1) := by decide +kernel
theorem dX7_type_30 : decode cX7_type 30 = .ok (.istore 4, 2) := by decide +kernel
theorem dX7_type_32 : decode cX7_type 32 = .ok (.iload 4, 2) := by decide +kernel
theorem dX7_type_34 : decode cX7_type 34 = .ok (.ifCond .lt 25, 3) := by decide +kernel
theorem dX7_type_37 : decode cX7_type 37 = .ok (.aload_n 0, 1) := by decide +kernel
theorem dX7_type_38 : decode cX7_type 38 = .ok (.getfield 10, 3) := by decide +kernel
theorem dX7_type_41 : decode cX7_type 41 = .ok (.lload_n 1, 1) := by decide +kernel
theorem dX7_type_42 : decode cX7_type 42 = .ok (.bipush 8, 2) := by decide +kernel
theorem dX7_type_44 : decode cX7_type 44 = .ok (.iload 4, 2) := by decide +kernel
theorem dX7_type_46 : decode cX7_type 46 = .ok (.imul, 1) := by decide +kernel
theorem dX7_type_47 : decode cX7_type 47 = .ok (.lshr, 1) := by decide +kernel
theorem dX7_type_48 : decode cX7_type 48 = .ok (.l2i, 1) := by decide +kernel
theorem dX7_type_49 : decode cX7_type 49 = .ok (.i2b, 1) := by decide +kernel
theorem dX7_type_50 : decode cX7_type 50 = .ok (.invokevirtual 61, 3) := by decide +kernel
theorem dX7_type_53 : decode cX7_type 53 = .ok (.iinc 4 (-1), 3) := by decide +kernel
theorem dX7_type_56 : decode cX7_type 56 = .ok (.goto (-24), 3) := by decide +kernel
theorem dX7_type_59 : decode cX7_type 59 = .ok (.aload_n 0, 1) := by decide +kernel
theorem dX7_type_60 : decode cX7_type 60 = .ok (.getfield 10, 3) := by decide +kernel
theorem dX7_type_63 : decode cX7_type 63 = .ok (.getfield 65, 3) := by decide +kernel
theorem dX7_type_66 : decode cX7_type 66 = .ok (.ireturn, 1) := by decide +kernel
set_option maxRecDepth 20000 in
theorem ggX7_clear_X6_drop : GoodIn wsX7_clear wsX6_drop := goodIn_r _ [6, 7, 16, 17, 18, 19, 20, 21, 22] (by decide +kernel) (by decide +kernel)
set_option maxRecDepth 20000 in
theorem gX7_clear_X6_drop : GoodIn wsX7_clear (wsV RX7 69 RX6 yX6_drop wsX6_drop) := goodIn_app (goodIn_of _ (by decide +kernel)) ggX7_clear_X6_drop
theorem dX7_clear_0 : decode cX7_clear 0 = .ok (.aload_n 0, 1) := by decide +kernel
theorem dX7_clear_1 : decode cX7_clear 1 = .ok (.getfield 10, 3) := by decide +kernel
theorem dX7_clear_4 : decode cX7_clear 4 = .ok (.invokevirtual 69, 3) := by decide +kernel
theorem dX7_clear_7 : decode cX7_clear 7 = .ok (.ireturn, 1) := by decide +kernel
set_option maxRecDepth 20000 in
theorem ggX7_house_X6_readInto : GoodIn wsX7_house wsX6_readInto := goodIn_r _ [8, 9, 10, 11, 12, 13, 14, 15, 16, 17, 18, 19, 20, 21, 22, 23, 24, 25, 26, 27, 28, 7, 29, 30, 31, 32, 33, 34, 35, 36, 37, 38, 39, 40, 41, 42, 43, 44, 45, 46, 47, 48, 49, 50, 51, 52, 53, 54, 55, 56, 57, 58, 59, 60, 61, 62, 63, 64, 65, 66, 67, 68, 69, 70, 71, 72, 73, 74, 75, 76, 77, 78, 79, 80, 81, 82, 83, 84, 85, 86, 87, 88, 89, 90, 91, 92, 93, 94, 95, 96, 97, 98, 99, 100, 101, 102, 103, 104, 105, 106, 107, 108, 109, 110, 111, 112, 113, 114, 115, 116, 117, 118, 119, 120, 121, 122, 123, 124, 125, 126, 127, 128, 129, 130, 131, 132, 133, 134, 135, 136, 137, 138, 139, 161, 162, 163, 164, 165, 166, 167, 168, 169, 170, 171, 172, 173, 174, 175] (by decide +kernel) (by decide +kernel)
set_option maxRecDepth 20000 in
theorem gX7_house_X6_readInto : GoodIn wsX7_house (wsV RX7 73 RX6 yX6_readInto wsX6_readInto) := goodIn_app (goodIn_of _ (by decide +kernel)) ggX7_house_X6_readInto
set_option maxRecDepth 20000 in
theorem ggX7_house_X6_drop : GoodIn wsX7_house wsX6_drop := goodIn_r _ [143, 30, 161, 162, 163, 164, 165, 166, 167] (by decide +kernel) (by decide +kernel)
set_option maxRecDepth 20000 in
theorem gX7_house_X6_drop : GoodIn wsX7_house (wsV RX7 69 RX6 yX6_drop wsX6_drop) := goodIn_app (goodIn_of _ (by decide +kernel)) ggX7_house_X6_drop
set_option maxRecDepth 20000 in
theorem ggX7_house_X7_beginAnew : GoodIn wsX7_house wsX7_beginAnew := goodIn_r _ [148, 149, 3, 150, 151, 152, 153, 154, 155, 156, 157, 158, 159, 160, 168, 169, 170, 171, 172, 173, 174, 175, 176, 177, 178, 179, 180, 181, 182, 183, 184, 185, 186, 187] (by decide +kernel) (by decide +kernel)
set_option maxRecDepth 20000 in
theorem gX7_house_X7_beginAnew : GoodIn wsX7_house (wsV RX7 54 RX7 yX7_beginAnew wsX7_beginAnew) := goodIn_app (goodIn_of _ (by decide +kernel)) ggX7_house_X7_beginAnew
theorem dX7_house_0 : decode cX7_house 0 = .ok (.aload_n 0, 1) := by decide +kernel
theorem dX7_house_1 : decode cX7_house 1 = .ok (.getfield 10, 3) := by decide +kernel
theorem dX7_house_4 : decode cX7_house 4 = .ok (.aload_n 0, 1) := by decide +kernel
theorem dX7_house_5 : decode cX7_house 5 = .ok (.getfield 23, 3) := by decide +kernel
theorem dX7_house_8 : decode cX7_house 8 = .ok (.invokevirtual 73, 3) := by decide +kernel
theorem dX7_house_11 : decode cX7_house 11 = .ok (.istore_n 1, 1) := by decide +kernel
theorem dX7_house_12 : decode cX7_house 12 = .ok (.iload_n 1, 1) := by decide +kernel
theorem dX7_house_13 : decode cX7_house 13 = .ok (.ifCond .ge 5, 3) := by decide +kernel
theorem dX7_house_16 : decode cX7_house 16 = .ok (.iload_n 1, 1) := by decide +kernel
theorem dX7_house_17 : decode cX7_house 17 = .ok (.ireturn, 1) := by decide +kernel
theorem dX7_house_18 : decode cX7_house 18 = .ok (.aload_n 0, 1) := by decide +kernel
theorem dX7_house_19 : decode cX7_house 19 = .ok (.getfield 19, 3) := by decide +kernel
theorem dX7_house_22 : decode cX7_house 22 = .ok (.astore_n 2, 1) := by decide +kernel
theorem dX7_house_23 : decode cX7_house 23 = .ok (.aload_n 0, 1) := by decide +kernel
theorem dX7_house_24 : decode cX7_house 24 = .ok (.aload_n 0, 1) := by decide +kernel
theorem dX7_house_25 : decode cX7_house 25 = .ok (.getfield 23, 3) := by decide +kernel
theorem dX7_house_28 : decode cX7_house 28 = .ok (.putfield 19, 3) := by decide +kernel
theorem dX7_house_31 : decode cX7_house 31 = .ok (.aload_n 0, 1) := by decide +kernel
theorem dX7_house_32 : decode cX7_house 32 = .ok (.aload_n 2, 1) := by decide +kernel
theorem dX7_house_33 : decode cX7_house 33 = .ok (.putfield 23, 3) := by decide +kernel
theorem dX7_house_36 : decode cX7_house 36 = .ok (.aload_n 0, 1) := by decide +kernel
theorem dX7_house_37 : decode cX7_house 37 = .ok (.getfield 10, 3) := by decide +kernel
theorem dX7_house_40 : decode cX7_house 40 = .ok (.invokevirtual 69, 3) := by decide +kernel
theorem dX7_house_43 : decode cX7_house 43 = .ok (.pop, 1) := by decide +kernel
theorem dX7_house_44 : decode cX7_house 44 = .ok (.aload_n 0, 1) := by decide +kernel
theorem dX7_house_45 : decode cX7_house 45 = .ok (.invokevirtual 54, 3) := by decide +kernel
theorem dX7_house_48 : decode cX7_house 48 = .ok (.iload_n 1, 1) := by decide +kernel
theorem dX7_house_49 : decode cX7_house 49 = .ok (.ireturn, 1) := by decide +kernel
set_option maxRecDepth 20000 in
theorem ggX7_member_X2_has : GoodIn wsX7_member wsX2_has := goodIn_r _ [7, 8, 46, 47, 48, 49, 50, 51, 52, 53] (by decide +kernel) (by decide +kernel)
set_option maxRecDepth 20000 in
theorem gX7_member_X2_has : GoodIn wsX7_member (wsV RX7 77 RX2 yX2_has wsX2_has) := goodIn_app (goodIn_of _ (by decide +kernel)) ggX7_member_X2_has
set_option maxRecDepth 20000 in
theorem ggX7_member_X2_warmthOf : GoodIn wsX7_member wsX2_warmthOf := goodIn_r _ [11] (by decide +kernel) (by decide +kernel)
set_option maxRecDepth 20000 in
theorem gX7_member_X2_warmthOf : GoodIn wsX7_member (va_wsS RX7 83 yX2_warmthOf wsX2_warmthOf) := goodIn_app (goodIn_of _ (by decide +kernel)) ggX7_member_X2_warmthOf
set_option maxRecDepth 20000 in
theorem ggX7_member_X2_sideOf : GoodIn wsX7_member wsX2_sideOf := goodIn_r _ [15, 16, 46, 47, 48, 49, 50, 51, 52, 53] (by decide +kernel) (by decide +kernel)
set_option maxRecDepth 20000 in
theorem gX7_member_X2_sideOf : GoodIn wsX7_member (wsV RX7 87 RX2 yX2_sideOf wsX2_sideOf) := goodIn_app (goodIn_of _ (by decide +kernel)) ggX7_member_X2_sideOf
set_option maxRecDepth 20000 in
theorem ggX7_member_X2_isFrozen : GoodIn wsX7_member wsX2_isFrozen := goodIn_r _ [19, 20, 10, 6, 11] (by decide +kernel) (by decide +kernel)
set_option maxRecDepth 20000 in
theorem gX7_member_X2_isFrozen : GoodIn wsX7_member (va_wsS RX7 91 yX2_isFrozen wsX2_isFrozen) := goodIn_app (goodIn_of _ (by decide +kernel)) ggX7_member_X2_isFrozen
set_option maxRecDepth 20000 in
theorem ggX7_member_X2_secondersOf : GoodIn wsX7_member wsX2_secondersOf := goodIn_r _ [24, 25, 46, 47, 48, 49, 50, 51, 52, 53] (by decide +kernel) (by decide +kernel)
set_option maxRecDepth 20000 in
theorem gX7_member_X2_secondersOf : GoodIn wsX7_member (wsV RX7 95 RX2 yX2_secondersOf wsX2_secondersOf) := goodIn_app (goodIn_of _ (by decide +kernel)) ggX7_member_X2_secondersOf
set_option maxRecDepth 20000 in
theorem ggX7_member_J6_bitCount_0f7a4 : GoodIn wsX7_member wsJ6_bitCount_0f7a4 := goodIn_r _ [29, 30, 31, 32] (by decide +kernel) (by decide +kernel)
set_option maxRecDepth 20000 in
theorem gX7_member_J6_bitCount_0f7a4 : GoodIn wsX7_member (va_wsS RX7 98 yJ6_bitCount_0f7a4 wsJ6_bitCount_0f7a4) := goodIn_app (goodIn_of _ (by decide +kernel)) ggX7_member_J6_bitCount_0f7a4
theorem dX7_member_0 : decode cX7_member 0 = .ok (.aload_n 0, 1) := by decide +kernel
theorem dX7_member_1 : decode cX7_member 1 = .ok (.getfield 19, 3) := by decide +kernel
theorem dX7_member_4 : decode cX7_member 4 = .ok (.iload_n 1, 1) := by decide +kernel
theorem dX7_member_5 : decode cX7_member 5 = .ok (.invokevirtual 77, 3) := by decide +kernel
theorem dX7_member_8 : decode cX7_member 8 = .ok (.ifCond .ne 5, 3) := by decide +kernel
theorem dX7_member_11 : decode cX7_member 11 = .ok (.iconst (-1), 1) := by decide +kernel
theorem dX7_member_12 : decode cX7_member 12 = .ok (.ireturn, 1) := by decide +kernel
theorem dX7_member_13 : decode cX7_member 13 = .ok (.iload_n 2, 1) := by decide +kernel
theorem dX7_member_14 : decode cX7_member 14 = .ok (.tableswitch 83 0 3 #[30, 42, 51, 71], 30) := by decide +kernel
theorem dX7_member_44 : decode cX7_member 44 = .ok (.iload_n 1, 1) := by decide +kernel
theorem dX7_member_45 : decode cX7_member 45 = .ok (.aload_n 0, 1) := by decide +kernel
theorem dX7_member_46 : decode cX7_member 46 = .ok (.getfield 29, 3) := by decide +kernel
theorem dX7_member_49 : decode cX7_member 49 = .ok (.getfield 80, 3) := by decide +kernel
theorem dX7_member_52 : decode cX7_member 52 = .ok (.invokestatic 83, 3) := by decide +kernel
theorem dX7_member_55 : decode cX7_member 55 = .ok (.ireturn, 1) := by decide +kernel
theorem dX7_member_56 : decode cX7_member 56 = .ok (.aload_n 0, 1) := by decide +kernel
theorem dX7_member_57 : decode cX7_member 57 = .ok (.getfield 19, 3) := by decide +kernel
theorem dX7_member_60 : decode cX7_member 60 = .ok (.iload_n 1, 1) := by decide +kernel
theorem dX7_member_61 : decode cX7_member 61 = .ok (.invokevirtual 87, 3) := by decide +kernel
theorem dX7_member_64 : decode cX7_member 64 = .ok (.ireturn, 1) := by decide +kernel
theorem dX7_member_65 : decode cX7_member 65 = .ok (.iload_n 1, 1) := by decide +kernel
theorem dX7_member_66 : decode cX7_member 66 = .ok (.aload_n 0, 1) := by decide +kernel
theorem dX7_member_67 : decode cX7_member 67 = .ok (.getfield 29, 3) := by decide +kernel
theorem dX7_member_70 : decode cX7_member 70 = .ok (.getfield 80, 3) := by decide +kernel
theorem dX7_member_73 : decode cX7_member 73 = .ok (.invokestatic 91, 3) := by decide +kernel
theorem dX7_member_76 : decode cX7_member 76 = .ok (.ifCond .eq 7, 3) := by decide +kernel
theorem dX7_member_79 : decode cX7_member 79 = .ok (.iconst 1, 1) := by decide +kernel
theorem dX7_member_80 : decode cX7_member 80 = .ok (.goto 4, 3) := by decide +kernel
theorem dX7_member_83 : decode cX7_member 83 = .ok (.iconst 0, 1) := by decide +kernel
theorem dX7_member_84 : decode cX7_member 84 = .ok (.ireturn, 1) := by decide +kernel
theorem dX7_member_85 : decode cX7_member 85 = .ok (.aload_n 0, 1) := by decide +kernel
theorem dX7_member_86 : decode cX7_member 86 = .ok (.getfield 19, 3) := by decide +kernel
theorem dX7_member_89 : decode cX7_member 89 = .ok (.iload_n 1, 1) := by decide +kernel
theorem dX7_member_90 : decode cX7_member 90 = .ok (.invokevirtual 95, 3) := by decide +kernel
theorem dX7_member_93 : decode cX7_member 93 = .ok (.invokestatic 98, 3) := by decide +kernel
theorem dX7_member_96 : decode cX7_member 96 = .ok (.ireturn, 1) := by decide +kernel
theorem dX7_member_97 : decode cX7_member 97 = .ok (.iconst (-1), 1) := by decide +kernel
theorem dX7_member_98 : decode cX7_member 98 = .ok (.ireturn, 1) := by decide +kernel
set_option maxRecDepth 20000 in
theorem ggX7_told_X2_frozen : GoodIn wsX7_told wsX2_frozen := goodIn_r _ [7, 8, 9, 10, 6, 11, 12, 13, 14, 23, 24, 25, 26, 27, 28, 29, 30] (by decide +kernel) (by decide +kernel)
set_option maxRecDepth 20000 in
theorem gX7_told_X2_frozen : GoodIn wsX7_told (wsV RX7 118 RX2 yX2_frozen wsX2_frozen) := goodIn_app (goodIn_of _ (by decide +kernel)) ggX7_told_X2_frozen
theorem dX7_told_0 : decode cX7_told 0 = .ok (.iload_n 1, 1) := by decide +kernel
theorem dX7_told_1 : decode cX7_told 1 = .ok (.tableswitch 94 0 5 #[39, 47, 55, 63, 71, 79], 39) := by decide +kernel
theorem dX7_told_40 : decode cX7_told 40 = .ok (.aload_n 0, 1) := by decide +kernel
theorem dX7_told_41 : decode cX7_told 41 = .ok (.getfield 19, 3) := by decide +kernel
theorem dX7_told_44 : decode cX7_told 44 = .ok (.getfield 103, 3) := by decide +kernel
theorem dX7_told_47 : decode cX7_told 47 = .ok (.ireturn, 1) := by decide +kernel
theorem dX7_told_48 : decode cX7_told 48 = .ok (.aload_n 0, 1) := by decide +kernel
theorem dX7_told_49 : decode cX7_told 49 = .ok (.getfield 29, 3) := by decide +kernel
theorem dX7_told_52 : decode cX7_told 52 = .ok (.getfield 106, 3) := by decide +kernel
theorem dX7_told_55 : decode cX7_told 55 = .ok (.ireturn, 1) := by decide +kernel
theorem dX7_told_56 : decode cX7_told 56 = .ok (.aload_n 0, 1) := by decide +kernel
theorem dX7_told_57 : decode cX7_told 57 = .ok (.getfield 19, 3) := by decide +kernel
theorem dX7_told_60 : decode cX7_told 60 = .ok (.getfield 109, 3) := by decide +kernel
theorem dX7_told_63 : decode cX7_told 63 = .ok (.ireturn, 1) := by decide +kernel
theorem dX7_told_64 : decode cX7_told 64 = .ok (.aload_n 0, 1) := by decide +kernel
theorem dX7_told_65 : decode cX7_told 65 = .ok (.getfield 29, 3) := by decide +kernel
theorem dX7_told_68 : decode cX7_told 68 = .ok (.getfield 112, 3) := by decide +kernel
theorem dX7_told_71 : decode cX7_told 71 = .ok (.ireturn, 1) := by decide +kernel
theorem dX7_told_72 : decode cX7_told 72 = .ok (.aload_n 0, 1) := by decide +kernel
theorem dX7_told_73 : decode cX7_told 73 = .ok (.getfield 29, 3) := by decide +kernel
theorem dX7_told_76 : decode cX7_told 76 = .ok (.getfield 115, 3) := by decide +kernel
theorem dX7_told_79 : decode cX7_told 79 = .ok (.ireturn, 1) := by decide +kernel
theorem dX7_told_80 : decode cX7_told 80 = .ok (.aload_n 0, 1) := by decide +kernel
theorem dX7_told_81 : decode cX7_told 81 = .ok (.getfield 19, 3) := by decide +kernel
theorem dX7_told_84 : decode cX7_told 84 = .ok (.aload_n 0, 1) := by decide +kernel
theorem dX7_told_85 : decode cX7_told 85 = .ok (.getfield 29, 3) := by decide +kernel
theorem dX7_told_88 : decode cX7_told 88 = .ok (.getfield 80, 3) := by decide +kernel
theorem dX7_told_91 : decode cX7_told 91 = .ok (.invokevirtual 118, 3) := by decide +kernel
theorem dX7_told_94 : decode cX7_told 94 = .ok (.ireturn, 1) := by decide +kernel
theorem dX7_told_95 : decode cX7_told 95 = .ok (.iconst (-1), 1) := by decide +kernel
theorem dX7_told_96 : decode cX7_told 96 = .ok (.ireturn, 1) := by decide +kernel
set_option maxRecDepth 20000 in
theorem ggX7_speaks_X2_has : GoodIn wsX7_speaks wsX2_has := goodIn_r _ [8, 9, 80, 81, 82, 83, 84, 85, 86, 87] (by decide +kernel) (by decide +kernel)
set_option maxRecDepth 20000 in
theorem gX7_speaks_X2_has : GoodIn wsX7_speaks (wsV RX7 77 RX2 yX2_has wsX2_has) := goodIn_app (goodIn_of _ (by decide +kernel)) ggX7_speaks_X2_has
set_option maxRecDepth 20000 in
theorem ggX7_speaks_X7_isSpeechLength : GoodIn wsX7_speaks wsX7_isSpeechLength := goodIn_r _ [13] (by decide +kernel) (by decide +kernel)
set_option maxRecDepth 20000 in
theorem gX7_speaks_X7_isSpeechLength : GoodIn wsX7_speaks (va_wsS RX7 121 yX7_isSpeechLength wsX7_isSpeechLength) := goodIn_app (goodIn_of _ (by decide +kernel)) ggX7_speaks_X7_isSpeechLength
set_option maxRecDepth 20000 in
theorem ggX7_speaks_X2_isFrozen : GoodIn wsX7_speaks wsX2_isFrozen := goodIn_r _ [16, 17, 18, 7, 19] (by decide +kernel) (by decide +kernel)
set_option maxRecDepth 20000 in
theorem gX7_speaks_X2_isFrozen : GoodIn wsX7_speaks (va_wsS RX7 91 yX2_isFrozen wsX2_isFrozen) := goodIn_app (goodIn_of _ (by decide +kernel)) ggX7_speaks_X2_isFrozen
set_option maxRecDepth 20000 in
theorem ggX7_speaks_X3_add : GoodIn wsX7_speaks wsX3_add := goodIn_r _ [24, 25, 26, 27, 28, 29, 23, 30, 31, 32, 33, 34, 35, 36, 37, 38, 39, 40, 88, 89, 75, 76, 77, 78, 79] (by decide +kernel) (by decide +kernel)
set_option maxRecDepth 20000 in
theorem gX7_speaks_X3_add : GoodIn wsX7_speaks (wsV RX7 124 RX3 yX3_add wsX3_add) := goodIn_app (goodIn_of _ (by decide +kernel)) ggX7_speaks_X3_add
set_option maxRecDepth 20000 in
theorem ggX7_speaks_X7_drawsCough : GoodIn wsX7_speaks wsX7_drawsCough := goodIn_r _ [44, 2, 45, 1, 67, 68, 69, 70, 71, 72, 73, 74, 75, 76, 77, 78, 79, 80, 81, 82, 83, 84, 85, 86, 87] (by decide +kernel) (by decide +kernel)
set_option maxRecDepth 20000 in
theorem gX7_speaks_X7_drawsCough : GoodIn wsX7_speaks (wsV RX7 127 RX7 yX7_drawsCough wsX7_drawsCough) := goodIn_app (goodIn_of _ (by decide +kernel)) ggX7_speaks_X7_drawsCough
set_option maxRecDepth 20000 in
theorem ggX7_speaks_X7_passMinute : GoodIn wsX7_speaks wsX7_passMinute := goodIn_r _ [49, 2, 1, 50, 51, 52, 7, 53, 9, 54, 55, 56, 57, 58, 59, 60, 61, 62, 63, 64, 65, 66, 17, 18, 19, 67, 68, 69, 70, 71, 72, 73, 74, 75, 76, 77, 78, 79, 80, 81, 82, 83, 84, 85, 86, 87] (by decide +kernel) (by decide +kernel)
set_option maxRecDepth 20000 in
theorem gX7_speaks_X7_passMinute : GoodIn wsX7_speaks (wsV RX7 131 RX7 yX7_passMinute wsX7_passMinute) := goodIn_app (goodIn_of _ (by decide +kernel)) ggX7_speaks_X7_passMinute
theorem dX7_speaks_0 : decode cX7_speaks 0 = .ok (.aload_n 0, 1) := by decide +kernel
theorem dX7_speaks_1 : decode cX7_speaks 1 = .ok (.getfield 19, 3) := by decide +kernel
theorem dX7_speaks_4 : decode cX7_speaks 4 = .ok (.iload_n 1, 1) := by decide +kernel
theorem dX7_speaks_5 : decode cX7_speaks 5 = .ok (.invokevirtual 77, 3) := by decide +kernel
theorem dX7_speaks_8 : decode cX7_speaks 8 = .ok (.ifCond .eq 10, 3) := by decide +kernel
theorem dX7_speaks_11 : decode cX7_speaks 11 = .ok (.iload_n 2, 1) := by decide +kernel
theorem dX7_speaks_12 : decode cX7_speaks 12 = .ok (.invokestatic 121, 3) := by decide +kernel
theorem dX7_speaks_15 : decode cX7_speaks 15 = .ok (.ifCond .ne 5, 3) := by decide +kernel
theorem dX7_speaks_18 : decode cX7_speaks 18 = .ok (.iconst (-1), 1) := by decide +kernel
theorem dX7_speaks_19 : decode cX7_speaks 19 = .ok (.ireturn, 1) := by decide +kernel
theorem dX7_speaks_20 : decode cX7_speaks 20 = .ok (.iload_n 1, 1) := by decide +kernel
theorem dX7_speaks_21 : decode cX7_speaks 21 = .ok (.aload_n 0, 1) := by decide +kernel
theorem dX7_speaks_22 : decode cX7_speaks 22 = .ok (.getfield 29, 3) := by decide +kernel
theorem dX7_speaks_25 : decode cX7_speaks 25 = .ok (.getfield 80, 3) := by decide +kernel
theorem dX7_speaks_28 : decode cX7_speaks 28 = .ok (.invokestatic 91, 3) := by decide +kernel
theorem dX7_speaks_31 : decode cX7_speaks 31 = .ok (.ifCond .eq 6, 3) := by decide +kernel
theorem dX7_speaks_34 : decode cX7_speaks 34 = .ok (.bipush (-2), 2) := by decide +kernel
theorem dX7_speaks_36 : decode cX7_speaks 36 = .ok (.ireturn, 1) := by decide +kernel
theorem dX7_speaks_37 : decode cX7_speaks 37 = .ok (.aload_n 0, 1) := by decide +kernel
theorem dX7_speaks_38 : decode cX7_speaks 38 = .ok (.getfield 36, 3) := by decide +kernel
theorem dX7_speaks_41 : decode cX7_speaks 41 = .ok (.aload_n 0, 1) := by decide +kernel
theorem dX7_speaks_42 : decode cX7_speaks 42 = .ok (.getfield 29, 3) := by decide +kernel
theorem dX7_speaks_45 : decode cX7_speaks 45 = .ok (.invokevirtual 124, 3) := by decide +kernel
theorem dX7_speaks_48 : decode cX7_speaks 48 = .ok (.aload_n 0, 1) := by decide +kernel
theorem dX7_speaks_49 : decode cX7_speaks 49 = .ok (.getfield 29, 3) := by decide +kernel
theorem dX7_speaks_52 : decode cX7_speaks 52 = .ok (.iload_n 1, 1) := by decide +kernel
theorem dX7_speaks_53 : decode cX7_speaks 53 = .ok (.putfield 112, 3) := by decide +kernel
theorem dX7_speaks_56 : decode cX7_speaks 56 = .ok (.iconst 0, 1) := by decide +kernel
theorem dX7_speaks_57 : decode cX7_speaks 57 = .ok (.istore_n 3, 1) := by decide +kernel
theorem dX7_speaks_58 : decode cX7_speaks 58 = .ok (.iload_n 3, 1) := by decide +kernel
theorem dX7_speaks_59 : decode cX7_speaks 59 = .ok (.iload_n 2, 1) := by decide +kernel
theorem dX7_speaks_60 : decode cX7_speaks 60 = .ok (.if_icmp .ge 24, 3) := by decide +kernel
theorem dX7_speaks_63 : decode cX7_speaks 63 = .ok (.iload_n 3, 1) := by decide +kernel
theorem dX7_speaks_64 : decode cX7_speaks 64 = .ok (.ifCond .eq 10, 3) := by decide +kernel
theorem dX7_speaks_67 : decode cX7_speaks 67 = .ok (.aload_n 0, 1) := by decide +kernel
theorem dX7_speaks_68 : decode cX7_speaks 68 = .ok (.invokevirtual 127, 3) := by decide +kernel
theorem dX7_speaks_71 : decode cX7_speaks 71 = .ok (.ifCond .ne 13, 3) := by decide +kernel
theorem dX7_speaks_74 : decode cX7_speaks 74 = .ok (.aload_n 0, 1) := by decide +kernel
theorem dX7_speaks_75 : decode cX7_speaks 75 = .ok (.invokevirtual 131, 3) := by decide +kernel
theorem dX7_speaks_78 : decode cX7_speaks 78 = .ok (.iinc 3 1, 3) := by decide +kernel
theorem dX7_speaks_81 : decode cX7_speaks 81 = .ok (.goto (-23), 3) := by decide +kernel
theorem dX7_speaks_84 : decode cX7_speaks 84 = .ok (.iload_n 3, 1) := by decide +kernel
theorem dX7_speaks_85 : decode cX7_speaks 85 = .ok (.ireturn, 1) := by decide +kernel
set_option maxRecDepth 20000 in
theorem ggX7_pause_X7_isSpeechLength : GoodIn wsX7_pause wsX7_isSpeechLength := goodIn_r _ [7] (by decide +kernel) (by decide +kernel)
set_option maxRecDepth 20000 in
theorem gX7_pause_X7_isSpeechLength : GoodIn wsX7_pause (va_wsS RX7 121 yX7_isSpeechLength wsX7_isSpeechLength) := goodIn_app (goodIn_of _ (by decide +kernel)) ggX7_pause_X7_isSpeechLength
set_option maxRecDepth 20000 in
theorem ggX7_pause_X3_add : GoodIn wsX7_pause wsX3_add := goodIn_r _ [12, 13, 14, 15, 16, 17, 11, 18, 19, 20, 21, 22, 23, 24, 25, 26, 27, 28, 82, 83, 77, 78, 79, 80, 81] (by decide +kernel) (by decide +kernel)
set_option maxRecDepth 20000 in
theorem gX7_pause_X3_add : GoodIn wsX7_pause (wsV RX7 124 RX3 yX3_add wsX3_add) := goodIn_app (goodIn_of _ (by decide +kernel)) ggX7_pause_X3_add
set_option maxRecDepth 20000 in
theorem ggX7_pause_X7_passMinute : GoodIn wsX7_pause wsX7_passMinute := goodIn_r _ [32, 2, 3, 33, 34, 35, 36, 37, 38, 39, 40, 41, 42, 43, 44, 45, 46, 47, 48, 49, 50, 51, 52, 53, 54, 69, 70, 71, 72, 73, 74, 75, 76, 77, 78, 79, 80, 81, 84, 85, 86, 87, 88, 89, 90, 91] (by decide +kernel) (by decide +kernel)
set_option maxRecDepth 20000 in
theorem gX7_pause_X7_passMinute : GoodIn wsX7_pause (wsV RX7 131 RX7 yX7_passMinute wsX7_passMinute) := goodIn_app (goodIn_of _ (by decide +kernel)) ggX7_pause_X7_passMinute
set_option maxRecDepth 20000 in
theorem ggX7_pause_X2_frozen : GoodIn wsX7_pause wsX2_frozen := goodIn_r _ [58, 38, 59, 60, 36, 61, 52, 53, 54, 84, 85, 86, 87, 88, 89, 90, 91] (by decide +kernel) (by decide +kernel)
set_option maxRecDepth 20000 in
theorem gX7_pause_X2_frozen : GoodIn wsX7_pause (wsV RX7 118 RX2 yX2_frozen wsX2_frozen) := goodIn_app (goodIn_of _ (by decide +kernel)) ggX7_pause_X2_frozen
set_option maxRecDepth 20000 in
theorem ggX7_pause_J6_bitCount_0f7a4 : GoodIn wsX7_pause wsJ6_bitCount_0f7a4 := goodIn_r _ [65, 66, 67, 68] (by decide +kernel) (by decide +kernel)
set_option maxRecDepth 20000 in
theorem gX7_pause_J6_bitCount_0f7a4 : GoodIn wsX7_pause (va_wsS RX7 98 yJ6_bitCount_0f7a4 wsJ6_bitCount_0f7a4) := goodIn_app (goodIn_of _ (by decide +kernel)) ggX7_pause_J6_bitCount_0f7a4
theorem dX7_pause_0 : decode cX7_pause 0 = .ok (.iload_n 1, 1) := by decide +kernel
theorem dX7_pause_1 : decode cX7_pause 1 = .ok (.invokestatic 121, 3) := by decide +kernel
theorem dX7_pause_4 : decode cX7_pause 4 = .ok (.ifCond .ne 5, 3) := by decide +kernel
theorem dX7_pause_7 : decode cX7_pause 7 = .ok (.iconst (-1), 1) := by decide +kernel
theorem dX7_pause_8 : decode cX7_pause 8 = .ok (.ireturn, 1) := by decide +kernel
theorem dX7_pause_9 : decode cX7_pause 9 = .ok (.aload_n 0, 1) := by decide +kernel
theorem dX7_pause_10 : decode cX7_pause 10 = .ok (.getfield 36, 3) := by decide +kernel
theorem dX7_pause_13 : decode cX7_pause 13 = .ok (.aload_n 0, 1) := by decide +kernel
theorem dX7_pause_14 : decode cX7_pause 14 = .ok (.getfield 29, 3) := by decide +kernel
theorem dX7_pause_17 : decode cX7_pause 17 = .ok (.invokevirtual 124, 3) := by decide +kernel
theorem dX7_pause_20 : decode cX7_pause 20 = .ok (.iconst 0, 1) := by decide +kernel
theorem dX7_pause_21 : decode cX7_pause 21 = .ok (.istore_n 2, 1) := by decide +kernel
theorem dX7_pause_22 : decode cX7_pause 22 = .ok (.iload_n 2, 1) := by decide +kernel
theorem dX7_pause_23 : decode cX7_pause 23 = .ok (.iload_n 1, 1) := by decide +kernel
theorem dX7_pause_24 : decode cX7_pause 24 = .ok (.if_icmp .ge 13, 3) := by decide +kernel
theorem dX7_pause_27 : decode cX7_pause 27 = .ok (.aload_n 0, 1) := by decide +kernel
theorem dX7_pause_28 : decode cX7_pause 28 = .ok (.invokevirtual 131, 3) := by decide +kernel
theorem dX7_pause_31 : decode cX7_pause 31 = .ok (.iinc 2 1, 3) := by decide +kernel
theorem dX7_pause_34 : decode cX7_pause 34 = .ok (.goto (-12), 3) := by decide +kernel
theorem dX7_pause_37 : decode cX7_pause 37 = .ok (.aload_n 0, 1) := by decide +kernel
theorem dX7_pause_38 : decode cX7_pause 38 = .ok (.getfield 19, 3) := by decide +kernel
theorem dX7_pause_41 : decode cX7_pause 41 = .ok (.aload_n 0, 1) := by decide +kernel
theorem dX7_pause_42 : decode cX7_pause 42 = .ok (.getfield 29, 3) := by decide +kernel
theorem dX7_pause_45 : decode cX7_pause 45 = .ok (.getfield 80, 3) := by decide +kernel
theorem dX7_pause_48 : decode cX7_pause 48 = .ok (.invokevirtual 118, 3) := by decide +kernel
theorem dX7_pause_51 : decode cX7_pause 51 = .ok (.invokestatic 98, 3) := by decide +kernel
theorem dX7_pause_54 : decode cX7_pause 54 = .ok (.ireturn, 1) := by decide +kernel
set_option maxRecDepth 20000 in
theorem ggX7_lining_X3_add : GoodIn wsX7_lining wsX3_add := goodIn_r _ [7, 8, 9, 10, 11, 12, 6, 13, 14, 15, 16, 17, 18, 19, 20, 21, 22, 23, 37, 38, 32, 33, 34, 35, 36] (by decide +kernel) (by decide +kernel)
set_option maxRecDepth 20000 in
theorem gX7_lining_X3_add : GoodIn wsX7_lining (wsV RX7 124 RX3 yX3_add wsX3_add) := goodIn_app (goodIn_of _ (by decide +kernel)) ggX7_lining_X3_add
theorem dX7_lining_0 : decode cX7_lining 0 = .ok (.aload_n 0, 1) := by decide +kernel
theorem dX7_lining_1 : decode cX7_lining 1 = .ok (.getfield 29, 3) := by decide +kernel
theorem dX7_lining_4 : decode cX7_lining 4 = .ok (.getfield 106, 3) := by decide +kernel
theorem dX7_lining_7 : decode cX7_lining 7 = .ok (.iconst 5, 1) := by decide +kernel
theorem dX7_lining_8 : decode cX7_lining 8 = .ok (.if_icmp .lt 6, 3) := by decide +kernel
theorem dX7_lining_11 : decode cX7_lining 11 = .ok (.bipush (-2), 2) := by decide +kernel
theorem dX7_lining_13 : decode cX7_lining 13 = .ok (.ireturn, 1) := by decide +kernel
theorem dX7_lining_14 : decode cX7_lining 14 = .ok (.aload_n 0, 1) := by decide +kernel
theorem dX7_lining_15 : decode cX7_lining 15 = .ok (.getfield 36, 3) := by decide +kernel
theorem dX7_lining_18 : decode cX7_lining 18 = .ok (.aload_n 0, 1) := by decide +kernel
theorem dX7_lining_19 : decode cX7_lining 19 = .ok (.getfield 29, 3) := by decide +kernel
theorem dX7_lining_22 : decode cX7_lining 22 = .ok (.invokevirtual 124, 3) := by decide +kernel
theorem dX7_lining_25 : decode cX7_lining 25 = .ok (.aload_n 0, 1) := by decide +kernel
theorem dX7_lining_26 : decode cX7_lining 26 = .ok (.getfield 29, 3) := by decide +kernel
theorem dX7_lining_29 : decode cX7_lining 29 = .ok (.dup, 1) := by decide +kernel
theorem dX7_lining_30 : decode cX7_lining 30 = .ok (.getfield 106, 3) := by decide +kernel
theorem dX7_lining_33 : decode cX7_lining 33 = .ok (.iconst 1, 1) := by decide +kernel
theorem dX7_lining_34 : decode cX7_lining 34 = .ok (.iadd, 1) := by decide +kernel
theorem dX7_lining_35 : decode cX7_lining 35 = .ok (.putfield 106, 3) := by decide +kernel
theorem dX7_lining_38 : decode cX7_lining 38 = .ok (.aload_n 0, 1) := by decide +kernel
theorem dX7_lining_39 : decode cX7_lining 39 = .ok (.getfield 29, 3) := by decide +kernel
theorem dX7_lining_42 : decode cX7_lining 42 = .ok (.getfield 106, 3) := by decide +kernel
theorem dX7_lining_45 : decode cX7_lining 45 = .ok (.ireturn, 1) := by decide +kernel
set_option maxRecDepth 20000 in
theorem ggX7_undo_X3_takeLast : GoodIn wsX7_undo wsX3_takeLast := goodIn_r _ [7, 8, 9, 10, 11, 12, 13, 14, 15, 16, 17, 18, 19, 28, 29, 30, 31, 32, 33, 34] (by decide +kernel) (by decide +kernel)
set_option maxRecDepth 20000 in
theorem gX7_undo_X3_takeLast : GoodIn wsX7_undo (wsV RX7 140 RX3 yX3_takeLast wsX3_takeLast) := goodIn_app (goodIn_of _ (by decide +kernel)) ggX7_undo_X3_takeLast
theorem dX7_undo_0 : decode cX7_undo 0 = .ok (.aload_n 0, 1) := by decide +kernel
theorem dX7_undo_1 : decode cX7_undo 1 = .ok (.getfield 36, 3) := by decide +kernel
theorem dX7_undo_4 : decode cX7_undo 4 = .ok (.getfield 134, 3) := by decide +kernel
theorem dX7_undo_7 : decode cX7_undo 7 = .ok (.ifCond .ne 6, 3) := by decide +kernel
theorem dX7_undo_10 : decode cX7_undo 10 = .ok (.bipush (-2), 2) := by decide +kernel
theorem dX7_undo_12 : decode cX7_undo 12 = .ok (.ireturn, 1) := by decide +kernel
theorem dX7_undo_13 : decode cX7_undo 13 = .ok (.aload_n 0, 1) := by decide +kernel
theorem dX7_undo_14 : decode cX7_undo 14 = .ok (.getfield 29, 3) := by decide +kernel
theorem dX7_undo_17 : decode cX7_undo 17 = .ok (.getfield 137, 3) := by decide +kernel
theorem dX7_undo_20 : decode cX7_undo 20 = .ok (.istore_n 1, 1) := by decide +kernel
theorem dX7_undo_21 : decode cX7_undo 21 = .ok (.aload_n 0, 1) := by decide +kernel
theorem dX7_undo_22 : decode cX7_undo 22 = .ok (.getfield 36, 3) := by decide +kernel
theorem dX7_undo_25 : decode cX7_undo 25 = .ok (.aload_n 0, 1) := by decide +kernel
theorem dX7_undo_26 : decode cX7_undo 26 = .ok (.getfield 29, 3) := by decide +kernel
theorem dX7_undo_29 : decode cX7_undo 29 = .ok (.invokevirtual 140, 3) := by decide +kernel
theorem dX7_undo_32 : decode cX7_undo 32 = .ok (.aload_n 0, 1) := by decide +kernel
theorem dX7_undo_33 : decode cX7_undo 33 = .ok (.getfield 29, 3) := by decide +kernel
theorem dX7_undo_36 : decode cX7_undo 36 = .ok (.iload_n 1, 1) := by decide +kernel
theorem dX7_undo_37 : decode cX7_undo 37 = .ok (.putfield 137, 3) := by decide +kernel
theorem dX7_undo_40 : decode cX7_undo 40 = .ok (.aload_n 0, 1) := by decide +kernel
theorem dX7_undo_41 : decode cX7_undo 41 = .ok (.getfield 36, 3) := by decide +kernel
theorem dX7_undo_44 : decode cX7_undo 44 = .ok (.getfield 134, 3) := by decide +kernel
theorem dX7_undo_47 : decode cX7_undo 47 = .ok (.ireturn, 1) := by decide +kernel
set_option maxRecDepth 20000 in
theorem ggX7_vote_X2_isCarried : GoodIn wsX7_vote wsX2_isCarried := goodIn_r _ [7, 8, 9, 10, 11, 6, 12, 13, 14, 15, 16, 17, 18, 19, 20, 21, 22, 23, 24, 25, 26, 27, 28, 29, 30, 44, 45, 46, 47, 48, 49, 50, 51] (by decide +kernel) (by decide +kernel)
set_option maxRecDepth 20000 in
theorem gX7_vote_X2_isCarried : GoodIn wsX7_vote (wsV RX7 143 RX2 yX2_isCarried wsX2_isCarried) := goodIn_app (goodIn_of _ (by decide +kernel)) ggX7_vote_X2_isCarried
theorem dX7_vote_0 : decode cX7_vote 0 = .ok (.aload_n 0, 1) := by decide +kernel
theorem dX7_vote_1 : decode cX7_vote 1 = .ok (.getfield 19, 3) := by decide +kernel
theorem dX7_vote_4 : decode cX7_vote 4 = .ok (.aload_n 0, 1) := by decide +kernel
theorem dX7_vote_5 : decode cX7_vote 5 = .ok (.getfield 29, 3) := by decide +kernel
theorem dX7_vote_8 : decode cX7_vote 8 = .ok (.getfield 80, 3) := by decide +kernel
theorem dX7_vote_11 : decode cX7_vote 11 = .ok (.invokevirtual 143, 3) := by decide +kernel
theorem dX7_vote_14 : decode cX7_vote 14 = .ok (.ifCond .eq 7, 3) := by decide +kernel
theorem dX7_vote_17 : decode cX7_vote 17 = .ok (.iconst 1, 1) := by decide +kernel
theorem dX7_vote_18 : decode cX7_vote 18 = .ok (.goto 4, 3) := by decide +kernel
theorem dX7_vote_21 : decode cX7_vote 21 = .ok (.iconst 0, 1) := by decide +kernel
theorem dX7_vote_22 : decode cX7_vote 22 = .ok (.ireturn, 1) := by decide +kernel
theorem dX7_lot_0 : decode cX7_lot 0 = .ok (.aload_n 0, 1) := by decide +kernel
theorem dX7_lot_1 : decode cX7_lot 1 = .ok (.getfield 29, 3) := by decide +kernel
theorem dX7_lot_4 : decode cX7_lot 4 = .ok (.getfield 137, 3) := by decide +kernel
theorem dX7_lot_7 : decode cX7_lot 7 = .ok (.istore_n 2, 1) := by decide +kernel
theorem dX7_lot_8 : decode cX7_lot 8 = .ok (.aload_n 0, 1) := by decide +kernel
theorem dX7_lot_9 : decode cX7_lot 9 = .ok (.getfield 29, 3) := by decide +kernel
theorem dX7_lot_12 : decode cX7_lot 12 = .ok (.iload_n 1, 1) := by decide +kernel
theorem dX7_lot_13 : decode cX7_lot 13 = .ok (.putfield 137, 3) := by decide +kernel
theorem dX7_lot_16 : decode cX7_lot 16 = .ok (.iload_n 2, 1) := by decide +kernel
theorem dX7_lot_17 : decode cX7_lot 17 = .ok (.ireturn, 1) := by decide +kernel
set_option maxRecDepth 20000 in
theorem ggX7_carry_X4_fewestMinutes : GoodIn wsX7_carry wsX4_fewestMinutes := goodIn_r _ [6, 7, 8, 5, 9, 10, 11, 12, 13, 14, 15, 16, 17, 18, 19, 20, 21, 22, 23, 24, 25, 26, 27, 28, 29, 30, 31, 32, 33, 34, 35, 36, 37, 38, 39, 40, 41, 42, 43, 44, 45, 46, 47, 48, 49, 50, 51, 52, 53, 54, 55, 56, 57, 58, 59, 60, 61, 62, 63, 64, 65, 66, 81, 82, 83, 84, 85, 86, 87, 88, 89, 90, 91, 92, 93] (by decide +kernel) (by decide +kernel)
set_option maxRecDepth 20000 in
theorem gX7_carry_X4_fewestMinutes : GoodIn wsX7_carry (va_wsS RX7 146 yX4_fewestMinutes wsX4_fewestMinutes) := goodIn_app (goodIn_of _ (by decide +kernel)) ggX7_carry_X4_fewestMinutes
set_option maxRecDepth 20000 in
theorem ggX7_carry_X4_firstToCarry : GoodIn wsX7_carry wsX4_firstToCarry := goodIn_r _ [69, 7, 8, 5, 9, 10, 11, 12, 13, 14, 15, 16, 17, 18, 19, 20, 21, 22, 23, 24, 25, 26, 27, 28, 29, 30, 31, 32, 33, 34, 35, 36, 37, 38, 39, 40, 41, 42, 43, 44, 45, 46, 47, 48, 49, 50, 51, 52, 53, 54, 55, 56, 57, 58, 59, 60, 61, 62, 63, 64, 65, 66, 81, 82, 83, 84, 85, 86, 87, 88, 89, 90, 91, 92, 93] (by decide +kernel) (by decide +kernel)
set_option maxRecDepth 20000 in
theorem gX7_carry_X4_firstToCarry : GoodIn wsX7_carry (va_wsS RX7 152 yX4_firstToCarry wsX4_firstToCarry) := goodIn_app (goodIn_of _ (by decide +kernel)) ggX7_carry_X4_firstToCarry
set_option maxRecDepth 20000 in
theorem ggX7_carry_X4_speaker : GoodIn wsX7_carry wsX4_speaker := goodIn_r _ [72] (by decide +kernel) (by decide +kernel)
set_option maxRecDepth 20000 in
theorem gX7_carry_X4_speaker : GoodIn wsX7_carry (va_wsS RX7 155 yX4_speaker wsX4_speaker) := goodIn_app (goodIn_of _ (by decide +kernel)) ggX7_carry_X4_speaker
theorem dX7_carry_0 : decode cX7_carry 0 = .ok (.iload_n 1, 1) := by decide +kernel
theorem dX7_carry_1 : decode cX7_carry 1 = .ok (.iconst (-1), 1) := by decide +kernel
theorem dX7_carry_2 : decode cX7_carry 2 = .ok (.if_icmp .ge 5, 3) := by decide +kernel
theorem dX7_carry_5 : decode cX7_carry 5 = .ok (.iconst (-1), 1) := by decide +kernel
theorem dX7_carry_6 : decode cX7_carry 6 = .ok (.ireturn, 1) := by decide +kernel
theorem dX7_carry_7 : decode cX7_carry 7 = .ok (.aload_n 0, 1) := by decide +kernel
theorem dX7_carry_8 : decode cX7_carry 8 = .ok (.getfield 19, 3) := by decide +kernel
theorem dX7_carry_11 : decode cX7_carry 11 = .ok (.aload_n 0, 1) := by decide +kernel
theorem dX7_carry_12 : decode cX7_carry 12 = .ok (.getfield 29, 3) := by decide +kernel
theorem dX7_carry_15 : decode cX7_carry 15 = .ok (.bipush (-9), 2) := by decide +kernel
theorem dX7_carry_17 : decode cX7_carry 17 = .ok (.invokestatic 146, 3) := by decide +kernel
theorem dX7_carry_20 : decode cX7_carry 20 = .ok (.istore_n 2, 1) := by decide +kernel
theorem dX7_carry_21 : decode cX7_carry 21 = .ok (.iload_n 1, 1) := by decide +kernel
theorem dX7_carry_22 : decode cX7_carry 22 = .ok (.iconst (-1), 1) := by decide +kernel
theorem dX7_carry_23 : decode cX7_carry 23 = .ok (.if_icmp .eq 9, 3) := by decide +kernel
theorem dX7_carry_26 : decode cX7_carry 26 = .ok (.iload_n 2, 1) := by decide +kernel
theorem dX7_carry_27 : decode cX7_carry 27 = .ok (.bipush (-9), 2) := by decide +kernel
theorem dX7_carry_29 : decode cX7_carry 29 = .ok (.if_icmp .ne 5, 3) := by decide +kernel
theorem dX7_carry_32 : decode cX7_carry 32 = .ok (.iload_n 2, 1) := by decide +kernel
theorem dX7_carry_33 : decode cX7_carry 33 = .ok (.ireturn, 1) := by decide +kernel
theorem dX7_carry_34 : decode cX7_carry 34 = .ok (.iload_n 1, 1) := by decide +kernel
theorem dX7_carry_35 : decode cX7_carry 35 = .ok (.iload_n 2, 1) := by decide +kernel
theorem dX7_carry_36 : decode cX7_carry 36 = .ok (.if_icmp .lt 6, 3) := by decide +kernel
theorem dX7_carry_39 : decode cX7_carry 39 = .ok (.bipush (-5), 2) := by decide +kernel
theorem dX7_carry_41 : decode cX7_carry 41 = .ok (.ireturn, 1) := by decide +kernel
theorem dX7_carry_42 : decode cX7_carry 42 = .ok (.iload_n 1, 1) := by decide +kernel
theorem dX7_carry_43 : decode cX7_carry 43 = .ok (.aload_n 0, 1) := by decide +kernel
theorem dX7_carry_44 : decode cX7_carry 44 = .ok (.getfield 19, 3) := by decide +kernel
theorem dX7_carry_47 : decode cX7_carry 47 = .ok (.aload_n 0, 1) := by decide +kernel
theorem dX7_carry_48 : decode cX7_carry 48 = .ok (.getfield 29, 3) := by decide +kernel
theorem dX7_carry_51 : decode cX7_carry 51 = .ok (.iload_n 2, 1) := by decide +kernel
theorem dX7_carry_52 : decode cX7_carry 52 = .ok (.invokestatic 152, 3) := by decide +kernel
theorem dX7_carry_55 : decode cX7_carry 55 = .ok (.invokestatic 155, 3) := by decide +kernel
theorem dX7_carry_58 : decode cX7_carry 58 = .ok (.ireturn, 1) := by decide +kernel
set_option maxRecDepth 20000 in
theorem ggX7_save_X7_isPlanLength : GoodIn wsX7_save wsX7_isPlanLength := goodIn_r _ [6] (by decide +kernel) (by decide +kernel)
set_option maxRecDepth 20000 in
theorem gX7_save_X7_isPlanLength : GoodIn wsX7_save (va_wsS RX7 158 yX7_isPlanLength wsX7_isPlanLength) := goodIn_app (goodIn_of _ (by decide +kernel)) ggX7_save_X7_isPlanLength
set_option maxRecDepth 20000 in
theorem ggX7_save_X4_firstToSave : GoodIn wsX7_save wsX4_firstToSave := goodIn_r _ [10, 11, 12, 9, 13, 14, 15, 16, 17, 18, 19, 20, 21, 22, 23, 24, 25, 26, 27, 28, 29, 30, 31, 32, 33, 34, 35, 36, 37, 38, 39, 40, 41, 42, 43, 44, 45, 46, 47, 48, 49, 50, 51, 52, 53, 54, 55, 56, 57, 58, 59, 60, 73, 74, 75, 76, 77, 78, 79, 80, 81, 82, 83, 84, 85] (by decide +kernel) (by decide +kernel)
set_option maxRecDepth 20000 in
theorem gX7_save_X4_firstToSave : GoodIn wsX7_save (va_wsS RX7 161 yX4_firstToSave wsX4_firstToSave) := goodIn_app (goodIn_of _ (by decide +kernel)) ggX7_save_X4_firstToSave
set_option maxRecDepth 20000 in
theorem ggX7_save_X4_saved : GoodIn wsX7_save wsX4_saved := goodIn_r _ [57] (by decide +kernel) (by decide +kernel)
set_option maxRecDepth 20000 in
theorem gX7_save_X4_saved : GoodIn wsX7_save (va_wsS RX7 164 yX4_saved wsX4_saved) := goodIn_app (goodIn_of _ (by decide +kernel)) ggX7_save_X4_saved
set_option maxRecDepth 20000 in
theorem ggX7_save_X4_speaker : GoodIn wsX7_save wsX4_speaker := goodIn_r _ [64] (by decide +kernel) (by decide +kernel)
set_option maxRecDepth 20000 in
theorem gX7_save_X4_speaker : GoodIn wsX7_save (va_wsS RX7 155 yX4_speaker wsX4_speaker) := goodIn_app (goodIn_of _ (by decide +kernel)) ggX7_save_X4_speaker
theorem dX7_save_0 : decode cX7_save 0 = .ok (.iload_n 1, 1) := by decide +kernel
theorem dX7_save_1 : decode cX7_save 1 = .ok (.invokestatic 158, 3) := by decide +kernel
theorem dX7_save_4 : decode cX7_save 4 = .ok (.ifCond .eq 8, 3) := by decide +kernel
theorem dX7_save_7 : decode cX7_save 7 = .ok (.iload_n 2, 1) := by decide +kernel
theorem dX7_save_8 : decode cX7_save 8 = .ok (.iconst (-1), 1) := by decide +kernel
theorem dX7_save_9 : decode cX7_save 9 = .ok (.if_icmp .ge 5, 3) := by decide +kernel
theorem dX7_save_12 : decode cX7_save 12 = .ok (.iconst (-1), 1) := by decide +kernel
theorem dX7_save_13 : decode cX7_save 13 = .ok (.ireturn, 1) := by decide +kernel
theorem dX7_save_14 : decode cX7_save 14 = .ok (.aload_n 0, 1) := by decide +kernel
theorem dX7_save_15 : decode cX7_save 15 = .ok (.getfield 19, 3) := by decide +kernel
theorem dX7_save_18 : decode cX7_save 18 = .ok (.aload_n 0, 1) := by decide +kernel
theorem dX7_save_19 : decode cX7_save 19 = .ok (.getfield 29, 3) := by decide +kernel
theorem dX7_save_22 : decode cX7_save 22 = .ok (.iload_n 1, 1) := by decide +kernel
theorem dX7_save_23 : decode cX7_save 23 = .ok (.invokestatic 161, 3) := by decide +kernel
theorem dX7_save_26 : decode cX7_save 26 = .ok (.istore_n 3, 1) := by decide +kernel
theorem dX7_save_27 : decode cX7_save 27 = .ok (.iload_n 3, 1) := by decide +kernel
theorem dX7_save_28 : decode cX7_save 28 = .ok (.bipush (-9), 2) := by decide +kernel
theorem dX7_save_30 : decode cX7_save 30 = .ok (.if_icmp .ne 6, 3) := by decide +kernel
theorem dX7_save_33 : decode cX7_save 33 = .ok (.bipush (-9), 2) := by decide +kernel
theorem dX7_save_35 : decode cX7_save 35 = .ok (.ireturn, 1) := by decide +kernel
theorem dX7_save_36 : decode cX7_save 36 = .ok (.iload_n 2, 1) := by decide +kernel
theorem dX7_save_37 : decode cX7_save 37 = .ok (.iconst (-1), 1) := by decide +kernel
theorem dX7_save_38 : decode cX7_save 38 = .ok (.if_icmp .ne 8, 3) := by decide +kernel
theorem dX7_save_41 : decode cX7_save 41 = .ok (.iload_n 3, 1) := by decide +kernel
theorem dX7_save_42 : decode cX7_save 42 = .ok (.invokestatic 164, 3) := by decide +kernel
theorem dX7_save_45 : decode cX7_save 45 = .ok (.ireturn, 1) := by decide +kernel
theorem dX7_save_46 : decode cX7_save 46 = .ok (.iload_n 2, 1) := by decide +kernel
theorem dX7_save_47 : decode cX7_save 47 = .ok (.iload_n 1, 1) := by decide +kernel
theorem dX7_save_48 : decode cX7_save 48 = .ok (.if_icmp .lt 8, 3) := by decide +kernel
theorem dX7_save_51 : decode cX7_save 51 = .ok (.bipush (-5), 2) := by decide +kernel
theorem dX7_save_53 : decode cX7_save 53 = .ok (.goto 8, 3) := by decide +kernel
theorem dX7_save_56 : decode cX7_save 56 = .ok (.iload_n 2, 1) := by decide +kernel
theorem dX7_save_57 : decode cX7_save 57 = .ok (.iload_n 3, 1) := by decide +kernel
theorem dX7_save_58 : decode cX7_save 58 = .ok (.invokestatic 155, 3) := by decide +kernel
theorem dX7_save_61 : decode cX7_save 61 = .ok (.ireturn, 1) := by decide +kernel
set_option maxRecDepth 20000 in
theorem ggX7_worth_X2_has : GoodIn wsX7_worth wsX2_has := goodIn_r _ [7, 8, 79, 80, 81, 82, 83, 84, 85, 86] (by decide +kernel) (by decide +kernel)
set_option maxRecDepth 20000 in
theorem gX7_worth_X2_has : GoodIn wsX7_worth (wsV RX7 77 RX2 yX2_has wsX2_has) := goodIn_app (goodIn_of _ (by decide +kernel)) ggX7_worth_X2_has
set_option maxRecDepth 20000 in
theorem ggX7_worth_X4_fewestMinutes : GoodIn wsX7_worth wsX4_fewestMinutes := goodIn_r _ [12, 13, 14, 11, 15, 16, 17, 18, 6, 19, 20, 21, 22, 23, 24, 8, 25, 26, 27, 28, 29, 30, 31, 32, 33, 34, 35, 36, 37, 38, 39, 40, 41, 42, 43, 44, 45, 46, 47, 48, 49, 50, 51, 52, 53, 54, 55, 56, 57, 58, 59, 60, 61, 62, 63, 64, 65, 66, 67, 68, 69, 70, 87, 88, 89, 90, 91, 79, 80, 81, 82, 83, 84, 85, 86] (by decide +kernel) (by decide +kernel)
set_option maxRecDepth 20000 in
theorem gX7_worth_X4_fewestMinutes : GoodIn wsX7_worth (va_wsS RX7 146 yX4_fewestMinutes wsX4_fewestMinutes) := goodIn_app (goodIn_of _ (by decide +kernel)) ggX7_worth_X4_fewestMinutes
theorem dX7_worth_0 : decode cX7_worth 0 = .ok (.aload_n 0, 1) := by decide +kernel
theorem dX7_worth_1 : decode cX7_worth 1 = .ok (.getfield 19, 3) := by decide +kernel
theorem dX7_worth_4 : decode cX7_worth 4 = .ok (.iload_n 1, 1) := by decide +kernel
theorem dX7_worth_5 : decode cX7_worth 5 = .ok (.invokevirtual 77, 3) := by decide +kernel
theorem dX7_worth_8 : decode cX7_worth 8 = .ok (.ifCond .ne 5, 3) := by decide +kernel
theorem dX7_worth_11 : decode cX7_worth 11 = .ok (.iconst (-1), 1) := by decide +kernel
theorem dX7_worth_12 : decode cX7_worth 12 = .ok (.ireturn, 1) := by decide +kernel
theorem dX7_worth_13 : decode cX7_worth 13 = .ok (.aload_n 0, 1) := by decide +kernel
theorem dX7_worth_14 : decode cX7_worth 14 = .ok (.getfield 19, 3) := by decide +kernel
theorem dX7_worth_17 : decode cX7_worth 17 = .ok (.aload_n 0, 1) := by decide +kernel
theorem dX7_worth_18 : decode cX7_worth 18 = .ok (.getfield 29, 3) := by decide +kernel
theorem dX7_worth_21 : decode cX7_worth 21 = .ok (.bipush (-9), 2) := by decide +kernel
theorem dX7_worth_23 : decode cX7_worth 23 = .ok (.invokestatic 146, 3) := by decide +kernel
theorem dX7_worth_26 : decode cX7_worth 26 = .ok (.istore_n 2, 1) := by decide +kernel
theorem dX7_worth_27 : decode cX7_worth 27 = .ok (.iload_n 2, 1) := by decide +kernel
theorem dX7_worth_28 : decode cX7_worth 28 = .ok (.bipush (-9), 2) := by decide +kernel
theorem dX7_worth_30 : decode cX7_worth 30 = .ok (.if_icmp .ne 6, 3) := by decide +kernel
theorem dX7_worth_33 : decode cX7_worth 33 = .ok (.bipush (-9), 2) := by decide +kernel
theorem dX7_worth_35 : decode cX7_worth 35 = .ok (.ireturn, 1) := by decide +kernel
theorem dX7_worth_36 : decode cX7_worth 36 = .ok (.aload_n 0, 1) := by decide +kernel
theorem dX7_worth_37 : decode cX7_worth 37 = .ok (.getfield 19, 3) := by decide +kernel
theorem dX7_worth_40 : decode cX7_worth 40 = .ok (.aload_n 0, 1) := by decide +kernel
theorem dX7_worth_41 : decode cX7_worth 41 = .ok (.getfield 29, 3) := by decide +kernel
theorem dX7_worth_44 : decode cX7_worth 44 = .ok (.iload_n 1, 1) := by decide +kernel
theorem dX7_worth_45 : decode cX7_worth 45 = .ok (.invokestatic 146, 3) := by decide +kernel
theorem dX7_worth_48 : decode cX7_worth 48 = .ok (.istore_n 3, 1) := by decide +kernel
theorem dX7_worth_49 : decode cX7_worth 49 = .ok (.iload_n 3, 1) := by decide +kernel
theorem dX7_worth_50 : decode cX7_worth 50 = .ok (.bipush (-9), 2) := by decide +kernel
theorem dX7_worth_52 : decode cX7_worth 52 = .ok (.if_icmp .ne 8, 3) := by decide +kernel
theorem dX7_worth_55 : decode cX7_worth 55 = .ok (.bipush (-5), 2) := by decide +kernel
theorem dX7_worth_57 : decode cX7_worth 57 = .ok (.goto 6, 3) := by decide +kernel
theorem dX7_worth_60 : decode cX7_worth 60 = .ok (.iload_n 3, 1) := by decide +kernel
theorem dX7_worth_61 : decode cX7_worth 61 = .ok (.iload_n 2, 1) := by decide +kernel
theorem dX7_worth_62 : decode cX7_worth 62 = .ok (.isub, 1) := by decide +kernel
theorem dX7_worth_63 : decode cX7_worth 63 = .ok (.ireturn, 1) := by decide +kernel
set_option maxRecDepth 20000 in
theorem ggX7_game_X7_isPlanLength : GoodIn wsX7_game wsX7_isPlanLength := goodIn_r _ [6] (by decide +kernel) (by decide +kernel)
set_option maxRecDepth 20000 in
theorem gX7_game_X7_isPlanLength : GoodIn wsX7_game (va_wsS RX7 158 yX7_isPlanLength wsX7_isPlanLength) := goodIn_app (goodIn_of _ (by decide +kernel)) ggX7_game_X7_isPlanLength
set_option maxRecDepth 20000 in
theorem ggX7_game_X4_isWon : GoodIn wsX7_game wsX4_isWon := goodIn_r _ [10, 11, 12, 9, 13, 14, 15, 16, 17, 18, 19, 20, 21, 22, 23, 24, 25, 26, 27, 28, 29, 30, 31, 32, 33, 34, 35, 36, 37, 38, 39, 40, 41, 42, 43, 44, 45, 46, 47, 48, 49, 50, 51, 52, 53, 54, 55, 56, 57, 58, 59, 60, 61, 62, 63, 75, 76, 77, 78, 79, 80, 81, 82, 83, 84, 85, 86, 87] (by decide +kernel) (by decide +kernel)
set_option maxRecDepth 20000 in
theorem gX7_game_X4_isWon : GoodIn wsX7_game (va_wsS RX7 167 yX4_isWon wsX4_isWon) := goodIn_app (goodIn_of _ (by decide +kernel)) ggX7_game_X4_isWon
set_option maxRecDepth 20000 in
theorem ggX7_game_X4_firstToWin : GoodIn wsX7_game wsX4_firstToWin := goodIn_r _ [66, 42, 43, 44, 17, 45, 19, 46, 30, 31, 32, 33, 34, 47, 48, 49, 50, 24, 51, 52, 53, 54, 55, 56, 57, 58, 59, 60, 61, 62, 63, 11, 12, 9, 13, 14, 15, 16, 18, 20, 21, 22, 23, 25, 26, 27, 28, 29, 35, 36, 37, 38, 39, 40, 41, 80, 81, 82, 83, 84, 85, 86, 87, 75, 76, 77, 78, 79] (by decide +kernel) (by decide +kernel)
set_option maxRecDepth 20000 in
theorem gX7_game_X4_firstToWin : GoodIn wsX7_game (va_wsS RX7 171 yX4_firstToWin wsX4_firstToWin) := goodIn_app (goodIn_of _ (by decide +kernel)) ggX7_game_X4_firstToWin
theorem dX7_game_0 : decode cX7_game 0 = .ok (.iload_n 1, 1) := by decide +kernel
theorem dX7_game_1 : decode cX7_game 1 = .ok (.invokestatic 158, 3) := by decide +kernel
theorem dX7_game_4 : decode cX7_game 4 = .ok (.ifCond .ne 5, 3) := by decide +kernel
theorem dX7_game_7 : decode cX7_game 7 = .ok (.iconst (-1), 1) := by decide +kernel
theorem dX7_game_8 : decode cX7_game 8 = .ok (.ireturn, 1) := by decide +kernel
theorem dX7_game_9 : decode cX7_game 9 = .ok (.iload_n 2, 1) := by decide +kernel
theorem dX7_game_10 : decode cX7_game 10 = .ok (.lookupswitch 60 #[(0, 26), (1, 47)], 26) := by decide +kernel
theorem dX7_game_36 : decode cX7_game 36 = .ok (.aload_n 0, 1) := by decide +kernel
theorem dX7_game_37 : decode cX7_game 37 = .ok (.getfield 19, 3) := by decide +kernel
theorem dX7_game_40 : decode cX7_game 40 = .ok (.aload_n 0, 1) := by decide +kernel
theorem dX7_game_41 : decode cX7_game 41 = .ok (.getfield 29, 3) := by decide +kernel
theorem dX7_game_44 : decode cX7_game 44 = .ok (.iload_n 1, 1) := by decide +kernel
theorem dX7_game_45 : decode cX7_game 45 = .ok (.invokestatic 167, 3) := by decide +kernel
theorem dX7_game_48 : decode cX7_game 48 = .ok (.ifCond .eq 7, 3) := by decide +kernel
theorem dX7_game_51 : decode cX7_game 51 = .ok (.iconst 1, 1) := by decide +kernel
theorem dX7_game_52 : decode cX7_game 52 = .ok (.goto 4, 3) := by decide +kernel
theorem dX7_game_55 : decode cX7_game 55 = .ok (.iconst 0, 1) := by decide +kernel
theorem dX7_game_56 : decode cX7_game 56 = .ok (.ireturn, 1) := by decide +kernel
theorem dX7_game_57 : decode cX7_game 57 = .ok (.aload_n 0, 1) := by decide +kernel
theorem dX7_game_58 : decode cX7_game 58 = .ok (.getfield 19, 3) := by decide +kernel
theorem dX7_game_61 : decode cX7_game 61 = .ok (.aload_n 0, 1) := by decide +kernel
theorem dX7_game_62 : decode cX7_game 62 = .ok (.getfield 29, 3) := by decide +kernel
theorem dX7_game_65 : decode cX7_game 65 = .ok (.iload_n 1, 1) := by decide +kernel
theorem dX7_game_66 : decode cX7_game 66 = .ok (.invokestatic 171, 3) := by decide +kernel
theorem dX7_game_69 : decode cX7_game 69 = .ok (.ireturn, 1) := by decide +kernel
theorem dX7_game_70 : decode cX7_game 70 = .ok (.iconst (-1), 1) := by decide +kernel
theorem dX7_game_71 : decode cX7_game 71 = .ok (.ireturn, 1) := by decide +kernel
set_option maxRecDepth 20000 in
theorem ggX7_saw_X7_isPlanLength : GoodIn wsX7_saw wsX7_isPlanLength := goodIn_r _ [6] (by decide +kernel) (by decide +kernel)
set_option maxRecDepth 20000 in
theorem gX7_saw_X7_isPlanLength : GoodIn wsX7_saw (va_wsS RX7 158 yX7_isPlanLength wsX7_isPlanLength) := goodIn_app (goodIn_of _ (by decide +kernel)) ggX7_saw_X7_isPlanLength
set_option maxRecDepth 20000 in
theorem ggX7_saw_X2_everybody : GoodIn wsX7_saw wsX2_everybody := goodIn_r _ [11, 12, 32, 33, 34, 35, 36, 37, 38, 39] (by decide +kernel) (by decide +kernel)
set_option maxRecDepth 20000 in
theorem gX7_saw_X2_everybody : GoodIn wsX7_saw (wsV RX7 174 RX2 yX2_everybody wsX2_everybody) := goodIn_app (goodIn_of _ (by decide +kernel)) ggX7_saw_X2_everybody
set_option maxRecDepth 20000 in
theorem ggX7_saw_X5_add : GoodIn wsX7_saw wsX5_add := goodIn_r _ [17, 18, 19, 20, 29, 30, 31] (by decide +kernel) (by decide +kernel)
set_option maxRecDepth 20000 in
theorem gX7_saw_X5_add : GoodIn wsX7_saw (wsV RX7 178 RX5 yX5_add wsX5_add) := goodIn_app (goodIn_of _ (by decide +kernel)) ggX7_saw_X5_add
theorem dX7_saw_0 : decode cX7_saw 0 = .ok (.iload_n 1, 1) := by decide +kernel
theorem dX7_saw_1 : decode cX7_saw 1 = .ok (.invokestatic 158, 3) := by decide +kernel
theorem dX7_saw_4 : decode cX7_saw 4 = .ok (.ifCond .eq 18, 3) := by decide +kernel
theorem dX7_saw_7 : decode cX7_saw 7 = .ok (.iload_n 2, 1) := by decide +kernel
theorem dX7_saw_8 : decode cX7_saw 8 = .ok (.ifCond .lt 14, 3) := by decide +kernel
theorem dX7_saw_11 : decode cX7_saw 11 = .ok (.iload_n 2, 1) := by decide +kernel
theorem dX7_saw_12 : decode cX7_saw 12 = .ok (.aload_n 0, 1) := by decide +kernel
theorem dX7_saw_13 : decode cX7_saw 13 = .ok (.getfield 19, 3) := by decide +kernel
theorem dX7_saw_16 : decode cX7_saw 16 = .ok (.invokevirtual 174, 3) := by decide +kernel
theorem dX7_saw_19 : decode cX7_saw 19 = .ok (.if_icmp .le 5, 3) := by decide +kernel
theorem dX7_saw_22 : decode cX7_saw 22 = .ok (.iconst (-1), 1) := by decide +kernel
theorem dX7_saw_23 : decode cX7_saw 23 = .ok (.ireturn, 1) := by decide +kernel
theorem dX7_saw_24 : decode cX7_saw 24 = .ok (.aload_n 0, 1) := by decide +kernel
theorem dX7_saw_25 : decode cX7_saw 25 = .ok (.getfield 43, 3) := by decide +kernel
theorem dX7_saw_28 : decode cX7_saw 28 = .ok (.getfield 177, 3) := by decide +kernel
theorem dX7_saw_31 : decode cX7_saw 31 = .ok (.bipush 6, 2) := by decide +kernel
theorem dX7_saw_33 : decode cX7_saw 33 = .ok (.if_icmp .lt 6, 3) := by decide +kernel
theorem dX7_saw_36 : decode cX7_saw 36 = .ok (.bipush (-3), 2) := by decide +kernel
theorem dX7_saw_38 : decode cX7_saw 38 = .ok (.ireturn, 1) := by decide +kernel
theorem dX7_saw_39 : decode cX7_saw 39 = .ok (.aload_n 0, 1) := by decide +kernel
theorem dX7_saw_40 : decode cX7_saw 40 = .ok (.getfield 43, 3) := by decide +kernel
theorem dX7_saw_43 : decode cX7_saw 43 = .ok (.iload_n 1, 1) := by decide +kernel
theorem dX7_saw_44 : decode cX7_saw 44 = .ok (.iload_n 2, 1) := by decide +kernel
theorem dX7_saw_45 : decode cX7_saw 45 = .ok (.invokevirtual 178, 3) := by decide +kernel
theorem dX7_saw_48 : decode cX7_saw 48 = .ok (.aload_n 0, 1) := by decide +kernel
theorem dX7_saw_49 : decode cX7_saw 49 = .ok (.getfield 43, 3) := by decide +kernel
theorem dX7_saw_52 : decode cX7_saw 52 = .ok (.getfield 177, 3) := by decide +kernel
theorem dX7_saw_55 : decode cX7_saw 55 = .ok (.ireturn, 1) := by decide +kernel
theorem dX7_forget_0 : decode cX7_forget 0 = .ok (.aload_n 0, 1) := by decide +kernel
theorem dX7_forget_1 : decode cX7_forget 1 = .ok (.getfield 43, 3) := by decide +kernel
theorem dX7_forget_4 : decode cX7_forget 4 = .ok (.getfield 177, 3) := by decide +kernel
theorem dX7_forget_7 : decode cX7_forget 7 = .ok (.istore_n 1, 1) := by decide +kernel
theorem dX7_forget_8 : decode cX7_forget 8 = .ok (.aload_n 0, 1) := by decide +kernel
theorem dX7_forget_9 : decode cX7_forget 9 = .ok (.getfield 43, 3) := by decide +kernel
theorem dX7_forget_12 : decode cX7_forget 12 = .ok (.iconst 0, 1) := by decide +kernel
theorem dX7_forget_13 : decode cX7_forget 13 = .ok (.putfield 177, 3) := by decide +kernel
theorem dX7_forget_16 : decode cX7_forget 16 = .ok (.iload_n 1, 1) := by decide +kernel
theorem dX7_forget_17 : decode cX7_forget 17 = .ok (.ireturn, 1) := by decide +kernel
set_option maxRecDepth 20000 in
theorem ggX7_fits_X7_isPlanLength : GoodIn wsX7_fits wsX7_isPlanLength := goodIn_r _ [6] (by decide +kernel) (by decide +kernel)
set_option maxRecDepth 20000 in
theorem gX7_fits_X7_isPlanLength : GoodIn wsX7_fits (va_wsS RX7 158 yX7_isPlanLength wsX7_isPlanLength) := goodIn_app (goodIn_of _ (by decide +kernel)) ggX7_fits_X7_isPlanLength
set_option maxRecDepth 20000 in
theorem ggX7_fits_X4_fitting : GoodIn wsX7_fits wsX4_fitting := goodIn_r _ [10, 11, 12, 9, 13, 14, 15, 16, 17, 18, 19, 20, 21, 22, 23, 24, 25, 26, 27, 28, 29, 30, 31, 32, 33, 34, 35, 36, 37, 38, 39, 40, 41, 42, 43, 44, 45, 46, 47, 48, 49, 50, 51, 60, 61, 62, 63, 64, 65, 66, 67, 68, 69, 70] (by decide +kernel) (by decide +kernel)
set_option maxRecDepth 20000 in
theorem gX7_fits_X4_fitting : GoodIn wsX7_fits (va_wsS RX7 181 yX4_fitting wsX4_fitting) := goodIn_app (goodIn_of _ (by decide +kernel)) ggX7_fits_X4_fitting
theorem dX7_fits_0 : decode cX7_fits 0 = .ok (.iload_n 1, 1) := by decide +kernel
theorem dX7_fits_1 : decode cX7_fits 1 = .ok (.invokestatic 158, 3) := by decide +kernel
theorem dX7_fits_4 : decode cX7_fits 4 = .ok (.ifCond .ne 5, 3) := by decide +kernel
theorem dX7_fits_7 : decode cX7_fits 7 = .ok (.iconst (-1), 1) := by decide +kernel
theorem dX7_fits_8 : decode cX7_fits 8 = .ok (.ireturn, 1) := by decide +kernel
theorem dX7_fits_9 : decode cX7_fits 9 = .ok (.aload_n 0, 1) := by decide +kernel
theorem dX7_fits_10 : decode cX7_fits 10 = .ok (.getfield 19, 3) := by decide +kernel
theorem dX7_fits_13 : decode cX7_fits 13 = .ok (.aload_n 0, 1) := by decide +kernel
theorem dX7_fits_14 : decode cX7_fits 14 = .ok (.getfield 43, 3) := by decide +kernel
theorem dX7_fits_17 : decode cX7_fits 17 = .ok (.iload_n 1, 1) := by decide +kernel
theorem dX7_fits_18 : decode cX7_fits 18 = .ok (.invokestatic 181, 3) := by decide +kernel
theorem dX7_fits_21 : decode cX7_fits 21 = .ok (.ireturn, 1) := by decide +kernel
set_option maxRecDepth 20000 in
theorem ggX7_rate_X2_has : GoodIn wsX7_rate wsX2_has := goodIn_r _ [7, 8, 64, 65, 66, 67, 68, 69, 70, 71] (by decide +kernel) (by decide +kernel)
set_option maxRecDepth 20000 in
theorem gX7_rate_X2_has : GoodIn wsX7_rate (wsV RX7 77 RX2 yX2_has wsX2_has) := goodIn_app (goodIn_of _ (by decide +kernel)) ggX7_rate_X2_has
set_option maxRecDepth 20000 in
theorem ggX7_rate_X7_memberRate : GoodIn wsX7_rate wsX7_memberRate := goodIn_r _ [13, 14, 15, 16, 17, 6, 18, 56, 57, 58, 59, 60, 61, 62, 63, 72, 73, 74, 75, 76] (by decide +kernel) (by decide +kernel)
set_option maxRecDepth 20000 in
theorem gX7_rate_X7_memberRate : GoodIn wsX7_rate (wsV RX7 186 RX7 yX7_memberRate wsX7_memberRate) := goodIn_app (goodIn_of _ (by decide +kernel)) ggX7_rate_X7_memberRate
set_option maxRecDepth 20000 in
theorem ggX7_rate_X7_oratorRate : GoodIn wsX7_rate wsX7_oratorRate := goodIn_r _ [22, 14, 23, 1, 9, 10, 11, 12, 13, 15, 16, 17, 6, 18, 24, 25, 26, 27, 28, 29, 30, 31, 32, 33, 34, 35, 56, 57, 58, 59, 60, 61, 62, 63, 72, 73, 74, 75, 76, 64, 65, 66, 67, 68, 69, 70, 71] (by decide +kernel) (by decide +kernel)
set_option maxRecDepth 20000 in
theorem gX7_rate_X7_oratorRate : GoodIn wsX7_rate (wsV RX7 189 RX7 yX7_oratorRate wsX7_oratorRate) := goodIn_app (goodIn_of _ (by decide +kernel)) ggX7_rate_X7_oratorRate
set_option maxRecDepth 20000 in
theorem ggX7_rate_X7_deafOneRate : GoodIn wsX7_rate wsX7_deafOneRate := goodIn_r _ [39, 14, 40, 1, 9, 10, 11, 12, 13, 15, 16, 17, 6, 18, 56, 57, 58, 59, 60, 61, 62, 63, 64, 65, 66, 67, 68, 69, 70, 71, 72, 73, 74, 75, 76] (by decide +kernel) (by decide +kernel)
set_option maxRecDepth 20000 in
theorem gX7_rate_X7_deafOneRate : GoodIn wsX7_rate (wsV RX7 192 RX7 yX7_deafOneRate wsX7_deafOneRate) := goodIn_app (goodIn_of _ (by decide +kernel)) ggX7_rate_X7_deafOneRate
set_option maxRecDepth 20000 in
theorem ggX7_rate_X7_stammererRate : GoodIn wsX7_rate wsX7_stammererRate := goodIn_r _ [44, 14, 45, 19, 20, 21, 12, 22, 23, 1, 9, 10, 11, 13, 15, 16, 17, 6, 18, 24, 25, 26, 27, 28, 29, 30, 31, 32, 33, 34, 35, 56, 57, 58, 59, 60, 61, 62, 63, 72, 73, 74, 75, 76, 64, 65, 66, 67, 68, 69, 70, 71] (by decide +kernel) (by decide +kernel)
set_option maxRecDepth 20000 in
theorem gX7_rate_X7_stammererRate : GoodIn wsX7_rate (wsV RX7 195 RX7 yX7_stammererRate wsX7_stammererRate) := goodIn_app (goodIn_of _ (by decide +kernel)) ggX7_rate_X7_stammererRate
set_option maxRecDepth 20000 in
theorem ggX7_rate_X7_chairRate : GoodIn wsX7_rate wsX7_chairRate := goodIn_r _ [49, 14, 50, 36, 37, 38, 12, 39, 40, 1, 9, 10, 11, 13, 15, 16, 17, 6, 18, 56, 57, 58, 59, 60, 61, 62, 63, 64, 65, 66, 67, 68, 69, 70, 71, 72, 73, 74, 75, 76] (by decide +kernel) (by decide +kernel)
set_option maxRecDepth 20000 in
theorem gX7_rate_X7_chairRate : GoodIn wsX7_rate (wsV RX7 198 RX7 yX7_chairRate wsX7_chairRate) := goodIn_app (goodIn_of _ (by decide +kernel)) ggX7_rate_X7_chairRate
set_option maxRecDepth 20000 in
theorem ggX7_rate_X7_sleeperRate : GoodIn wsX7_rate wsX7_sleeperRate := goodIn_r _ [54, 14, 55, 15, 9, 10, 11, 12, 13, 16, 17, 6, 18, 56, 57, 58, 59, 60, 61, 62, 63, 72, 73, 74, 75, 76] (by decide +kernel) (by decide +kernel)
set_option maxRecDepth 20000 in
theorem gX7_rate_X7_sleeperRate : GoodIn wsX7_rate (wsV RX7 201 RX7 yX7_sleeperRate wsX7_sleeperRate) := goodIn_app (goodIn_of _ (by decide +kernel)) ggX7_rate_X7_sleeperRate
theorem dX7_rate_0 : decode cX7_rate 0 = .ok (.aload_n 0, 1) := by decide +kernel
theorem dX7_rate_1 : decode cX7_rate 1 = .ok (.getfield 19, 3) := by decide +kernel
theorem dX7_rate_4 : decode cX7_rate 4 = .ok (.iload_n 2, 1) := by decide +kernel
theorem dX7_rate_5 : decode cX7_rate 5 = .ok (.invokevirtual 77, 3) := by decide +kernel
theorem dX7_rate_8 : decode cX7_rate 8 = .ok (.ifCond .ne 6, 3) := by decide +kernel
theorem dX7_rate_11 : decode cX7_rate 11 = .ok (.ldc 185, 2) := by decide +kernel
theorem dX7_rate_13 : decode cX7_rate 13 = .ok (.ireturn, 1) := by decide +kernel
theorem dX7_rate_14 : decode cX7_rate 14 = .ok (.iload_n 1, 1) := by decide +kernel
theorem dX7_rate_15 : decode cX7_rate 15 = .ok (.tableswitch 73 0 5 #[37, 43, 49, 55, 61, 67], 37) := by decide +kernel
theorem dX7_rate_52 : decode cX7_rate 52 = .ok (.aload_n 0, 1) := by decide +kernel
theorem dX7_rate_53 : decode cX7_rate 53 = .ok (.iload_n 2, 1) := by decide +kernel
theorem dX7_rate_54 : decode cX7_rate 54 = .ok (.invokevirtual 186, 3) := by decide +kernel
theorem dX7_rate_57 : decode cX7_rate 57 = .ok (.ireturn, 1) := by decide +kernel
theorem dX7_rate_58 : decode cX7_rate 58 = .ok (.aload_n 0, 1) := by decide +kernel
theorem dX7_rate_59 : decode cX7_rate 59 = .ok (.iload_n 2, 1) := by decide +kernel
theorem dX7_rate_60 : decode cX7_rate 60 = .ok (.invokevirtual 189, 3) := by decide +kernel
theorem dX7_rate_63 : decode cX7_rate 63 = .ok (.ireturn, 1) := by decide +kernel
theorem dX7_rate_64 : decode cX7_rate 64 = .ok (.aload_n 0, 1) := by decide +kernel
theorem dX7_rate_65 : decode cX7_rate 65 = .ok (.iload_n 2, 1) := by decide +kernel
theorem dX7_rate_66 : decode cX7_rate 66 = .ok (.invokevirtual 192, 3) := by decide +kernel
theorem dX7_rate_69 : decode cX7_rate 69 = .ok (.ireturn, 1) := by decide +kernel
theorem dX7_rate_70 : decode cX7_rate 70 = .ok (.aload_n 0, 1) := by decide +kernel
theorem dX7_rate_71 : decode cX7_rate 71 = .ok (.iload_n 2, 1) := by decide +kernel
theorem dX7_rate_72 : decode cX7_rate 72 = .ok (.invokevirtual 195, 3) := by decide +kernel
theorem dX7_rate_75 : decode cX7_rate 75 = .ok (.ireturn, 1) := by decide +kernel
theorem dX7_rate_76 : decode cX7_rate 76 = .ok (.aload_n 0, 1) := by decide +kernel
theorem dX7_rate_77 : decode cX7_rate 77 = .ok (.iload_n 2, 1) := by decide +kernel
theorem dX7_rate_78 : decode cX7_rate 78 = .ok (.invokevirtual 198, 3) := by decide +kernel
theorem dX7_rate_81 : decode cX7_rate 81 = .ok (.ireturn, 1) := by decide +kernel
theorem dX7_rate_82 : decode cX7_rate 82 = .ok (.aload_n 0, 1) := by decide +kernel
theorem dX7_rate_83 : decode cX7_rate 83 = .ok (.iload_n 2, 1) := by decide +kernel
theorem dX7_rate_84 : decode cX7_rate 84 = .ok (.invokevirtual 201, 3) := by decide +kernel
theorem dX7_rate_87 : decode cX7_rate 87 = .ok (.ireturn, 1) := by decide +kernel
theorem dX7_rate_88 : decode cX7_rate 88 = .ok (.ldc 185, 2) := by decide +kernel
theorem dX7_rate_90 : decode cX7_rate 90 = .ok (.ireturn, 1) := by decide +kernel
set_option maxRecDepth 20000 in
theorem ggX7_keep_X1_become : GoodIn wsX7_keep wsX1_become := goodIn_r _ [7, 8, 9, 10, 11, 12, 23, 24, 25, 26, 27] (by decide +kernel) (by decide +kernel)
set_option maxRecDepth 20000 in
theorem gX7_keep_X1_become : GoodIn wsX7_keep (wsV RX7 211 RX1 yX1_become wsX1_become) := goodIn_app (goodIn_of _ (by decide +kernel)) ggX7_keep_X1_become
theorem dX7_keep_0 : decode cX7_keep 0 = .ok (.iload_n 1, 1) := by decide +kernel
theorem dX7_keep_1 : decode cX7_keep 1 = .ok (.ifCond .lt 12, 3) := by decide +kernel
theorem dX7_keep_4 : decode cX7_keep 4 = .ok (.iload_n 1, 1) := by decide +kernel
theorem dX7_keep_5 : decode cX7_keep 5 = .ok (.aload_n 0, 1) := by decide +kernel
theorem dX7_keep_6 : decode cX7_keep 6 = .ok (.getfield 49, 3) := by decide +kernel
theorem dX7_keep_9 : decode cX7_keep 9 = .ok (.arraylength, 1) := by decide +kernel
theorem dX7_keep_10 : decode cX7_keep 10 = .ok (.if_icmp .lt 5, 3) := by decide +kernel
theorem dX7_keep_13 : decode cX7_keep 13 = .ok (.iconst (-1), 1) := by decide +kernel
theorem dX7_keep_14 : decode cX7_keep 14 = .ok (.ireturn, 1) := by decide +kernel
theorem dX7_keep_15 : decode cX7_keep 15 = .ok (.aload_n 0, 1) := by decide +kernel
theorem dX7_keep_16 : decode cX7_keep 16 = .ok (.getfield 49, 3) := by decide +kernel
theorem dX7_keep_19 : decode cX7_keep 19 = .ok (.iload_n 1, 1) := by decide +kernel
theorem dX7_keep_20 : decode cX7_keep 20 = .ok (.aaload, 1) := by decide +kernel
theorem dX7_keep_21 : decode cX7_keep 21 = .ok (.iconst 1, 1) := by decide +kernel
theorem dX7_keep_22 : decode cX7_keep 22 = .ok (.putfield 204, 3) := by decide +kernel
theorem dX7_keep_25 : decode cX7_keep 25 = .ok (.aload_n 0, 1) := by decide +kernel
theorem dX7_keep_26 : decode cX7_keep 26 = .ok (.getfield 49, 3) := by decide +kernel
theorem dX7_keep_29 : decode cX7_keep 29 = .ok (.iload_n 1, 1) := by decide +kernel
