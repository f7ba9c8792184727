theorem dX6_init_0 : decode cX6_init 0 = .ok (.aload_n 0, 1) := by decide +kernel
theorem dX6_init_1 : decode cX6_init 1 = .ok (.invokespecial 3, 3) := by decide +kernel
theorem dX6_init_4 : decode cX6_init 4 = .ok (.aload_n 0, 1) := by decide +kernel
theorem dX6_init_5 : decode cX6_init 5 = .ok (.sipush 200, 3) := by decide +kernel
theorem dX6_init_8 : decode cX6_init 8 = .ok (.newarray .byte, 2) := by decide +kernel
theorem dX6_init_10 : decode cX6_init 10 = .ok (.putfield 9, 3) := by decide +kernel
theorem dX6_init_13 : decode cX6_init 13 = .ok (.return_, 1) := by decide +kernel
theorem dX6_hasRoomFor_0 : decode cX6_hasRoomFor 0 = .ok (.aload_n 0, 1) := by decide +kernel
theorem dX6_hasRoomFor_1 : decode cX6_hasRoomFor 1 = .ok (.getfield 15, 3) := by decide +kernel
theorem dX6_hasRoomFor_4 : decode cX6_hasRoomFor 4 = .ok (.aload_n 0, 1) := by decide +kernel
theorem dX6_hasRoomFor_5 : decode cX6_hasRoomFor 5 = .ok (.getfield 9, 3) := by decide +kernel
theorem dX6_hasRoomFor_8 : decode cX6_hasRoomFor 8 = .ok (.arraylength, 1) := by decide +kernel
theorem dX6_hasRoomFor_9 : decode cX6_hasRoomFor 9 = .ok (.iload_n 1, 1) := by decide +kernel
theorem dX6_hasRoomFor_10 : decode cX6_hasRoomFor 10 = .ok (.isub, 1) := by decide +kernel
theorem dX6_hasRoomFor_11 : decode cX6_hasRoomFor 11 = .ok (.if_icmp .gt 7, 3) := by decide +kernel
theorem dX6_hasRoomFor_14 : decode cX6_hasRoomFor 14 = .ok (.iconst 1, 1) := by decide +kernel
theorem dX6_hasRoomFor_15 : decode cX6_hasRoomFor 15 = .ok (.goto 4, 3) := by decide +kernel
theorem dX6_hasRoomFor_18 : decode cX6_hasRoomFor 18 = .ok (.iconst 0, 1) := by decide +kernel
theorem dX6_hasRoomFor_19 : decode cX6_hasRoomFor 19 = .ok (.ireturn, 1) := by decide +kernel
theorem dX6_add_0 : decode cX6_add 0 = .ok (.aload_n 0, 1) := by decide +kernel
theorem dX6_add_1 : decode cX6_add 1 = .ok (.getfield 15, 3) := by decide +kernel
theorem dX6_add_4 : decode cX6_add 4 = .ok (.ifCond .lt 35, 3) := by decide +kernel
theorem dX6_add_7 : decode cX6_add 7 = .ok (.aload_n 0, 1) := by decide +kernel
theorem dX6_add_8 : decode cX6_add 8 = .ok (.getfield 15, 3) := by decide +kernel
theorem dX6_add_11 : decode cX6_add 11 = .ok (.aload_n 0, 1) := by decide +kernel
theorem dX6_add_12 : decode cX6_add 12 = .ok (.getfield 9, 3) := by decide +kernel
theorem dX6_add_15 : decode cX6_add 15 = .ok (.arraylength, 1) := by decide +kernel
theorem dX6_add_16 : decode cX6_add 16 = .ok (.if_icmp .ge 23, 3) := by decide +kernel
theorem dX6_add_19 : decode cX6_add 19 = .ok (.aload_n 0, 1) := by decide +kernel
theorem dX6_add_20 : decode cX6_add 20 = .ok (.getfield 9, 3) := by decide +kernel
theorem dX6_add_23 : decode cX6_add 23 = .ok (.aload_n 0, 1) := by decide +kernel
theorem dX6_add_24 : decode cX6_add 24 = .ok (.getfield 15, 3) := by decide +kernel
theorem dX6_add_27 : decode cX6_add 27 = .ok (.iload_n 1, 1) := by decide +kernel
theorem dX6_add_28 : decode cX6_add 28 = .ok (.bastore, 1) := by decide +kernel
theorem dX6_add_29 : decode cX6_add 29 = .ok (.aload_n 0, 1) := by decide +kernel
theorem dX6_add_30 : decode cX6_add 30 = .ok (.dup, 1) := by decide +kernel
theorem dX6_add_31 : decode cX6_add 31 = .ok (.getfield 15, 3) := by decide +kernel
theorem dX6_add_34 : decode cX6_add 34 = .ok (.iconst 1, 1) := by decide +kernel
theorem dX6_add_35 : decode cX6_add 35 = .ok (.iadd, 1) := by decide +kernel
theorem dX6_add_36 : decode cX6_add 36 = .ok (.putfield 15, 3) := by decide +kernel
theorem dX6_add_39 : decode cX6_add 39 = .ok (.return_, 1) := by decide +kernel
theorem dX6_drop_0 : decode cX6_drop 0 = .ok (.aload_n 0, 1) := by decide +kernel
theorem dX6_drop_1 : decode cX6_drop 1 = .ok (.getfield 15, 3) := by decide +kernel
theorem dX6_drop_4 : decode cX6_drop 4 = .ok (.istore_n 1, 1) := by decide +kernel
theorem dX6_drop_5 : decode cX6_drop 5 = .ok (.aload_n 0, 1) := by decide +kernel
theorem dX6_drop_6 : decode cX6_drop 6 = .ok (.iconst 0, 1) := by decide +kernel
theorem dX6_drop_7 : decode cX6_drop 7 = .ok (.putfield 15, 3) := by decide +kernel
theorem dX6_drop_10 : decode cX6_drop 10 = .ok (.iload_n 1, 1) := by decide +kernel
theorem dX6_drop_11 : decode cX6_drop 11 = .ok (.ireturn, 1) := by decide +kernel
set_option maxRecDepth 20000 in
theorem ggX6_readInto_X2_beAsAtFirst : GoodIn wsX6_readInto wsX2_beAsAtFirst := goodIn_r _ [9, 10, 11, 12, 13, 14, 15, 16, 17, 140, 141, 142, 143, 144, 145, 146, 147] (by decide +kernel) (by decide +kernel)
set_option maxRecDepth 20000 in
theorem gX6_readInto_X2_beAsAtFirst : GoodIn wsX6_readInto (wsV RX6 19 RX2 yX2_beAsAtFirst wsX2_beAsAtFirst) := goodIn_app (goodIn_of _ (by decide +kernel)) ggX6_readInto_X2_beAsAtFirst
set_option maxRecDepth 20000 in
theorem ggX6_readInto_X6_readToken : GoodIn wsX6_readInto wsX6_readToken := goodIn_r _ [22, 1, 23, 4, 3, 24, 25, 26, 21, 27, 28, 29, 30, 31, 133, 134, 135, 136, 137, 138, 139] (by decide +kernel) (by decide +kernel)
set_option maxRecDepth 20000 in
theorem gX6_readInto_X6_readToken : GoodIn wsX6_readInto (wsV RX6 30 RX6 yX6_readToken wsX6_readToken) := goodIn_app (goodIn_of _ (by decide +kernel)) ggX6_readInto_X6_readToken
set_option maxRecDepth 20000 in
theorem ggX6_readInto_X6_whichWord : GoodIn wsX6_readInto wsX6_whichWord := goodIn_r _ [35, 36, 37, 38, 21, 39, 1, 4, 40, 41, 42, 43, 44, 45, 46, 47, 48, 49, 50, 51, 24, 25, 26, 27, 23, 28, 52, 53, 54, 55, 56, 57, 58, 59, 60, 61, 62, 63, 64, 65, 66, 67, 68, 69, 70, 71, 72, 73, 74, 75, 76, 77, 78, 79, 80, 81, 82, 83, 84, 85, 86, 87, 88, 133, 134, 135, 136, 137, 138, 139] (by decide +kernel) (by decide +kernel)
set_option maxRecDepth 20000 in
theorem gX6_readInto_X6_whichWord : GoodIn wsX6_readInto (wsV RX6 36 RX6 yX6_whichWord wsX6_whichWord) := goodIn_app (goodIn_of _ (by decide +kernel)) ggX6_readInto_X6_whichWord
set_option maxRecDepth 20000 in
theorem ggX6_readInto_X6_readItem : GoodIn wsX6_readInto wsX6_readItem := goodIn_r _ [92, 93, 94, 95, 21, 96, 97, 98, 99, 100, 101, 18, 19, 20, 22, 1, 23, 4, 3, 24, 25, 26, 27, 28, 29, 30, 31, 102, 103, 104, 105, 106, 107, 108, 109, 110, 111, 112, 8, 113, 11, 10, 12, 114, 115, 116, 117, 118, 119, 120, 121, 122, 123, 124, 125, 17, 16, 126, 127, 128, 129, 2, 130, 131, 132, 140, 141, 142, 143, 144, 145, 146, 147, 133, 134, 135, 136, 137, 138, 139] (by decide +kernel) (by decide +kernel)
set_option maxRecDepth 20000 in
theorem gX6_readInto_X6_readItem : GoodIn wsX6_readInto (wsV RX6 40 RX6 yX6_readItem wsX6_readItem) := goodIn_app (goodIn_of _ (by decide +kernel)) ggX6_readInto_X6_readItem
theorem dX6_readInto_0 : decode cX6_readInto 0 = .ok (.aload_n 1, 1) := by decide +kernel
theorem dX6_readInto_1 : decode cX6_readInto 1 = .ok (.invokevirtual 19, 3) := by decide +kernel
theorem dX6_readInto_4 : decode cX6_readInto 4 = .ok (.aload_n 0, 1) := by decide +kernel
theorem dX6_readInto_5 : decode cX6_readInto 5 = .ok (.iconst 0, 1) := by decide +kernel
theorem dX6_readInto_6 : decode cX6_readInto 6 = .ok (.putfield 24, 3) := by decide +kernel
theorem dX6_readInto_9 : decode cX6_readInto 9 = .ok (.aload_n 0, 1) := by decide +kernel
theorem dX6_readInto_10 : decode cX6_readInto 10 = .ok (.iconst 0, 1) := by decide +kernel
theorem dX6_readInto_11 : decode cX6_readInto 11 = .ok (.putfield 27, 3) := by decide +kernel
theorem dX6_readInto_14 : decode cX6_readInto 14 = .ok (.iconst 0, 1) := by decide +kernel
theorem dX6_readInto_15 : decode cX6_readInto 15 = .ok (.istore_n 2, 1) := by decide +kernel
theorem dX6_readInto_16 : decode cX6_readInto 16 = .ok (.aload_n 0, 1) := by decide +kernel
theorem dX6_readInto_17 : decode cX6_readInto 17 = .ok (.invokevirtual 30, 3) := by decide +kernel
theorem dX6_readInto_20 : decode cX6_readInto 20 = .ok (.iload_n 2, 1) := by decide +kernel
theorem dX6_readInto_21 : decode cX6_readInto 21 = .ok (.sipush 200, 3) := by decide +kernel
theorem dX6_readInto_24 : decode cX6_readInto 24 = .ok (.if_icmp .gt 40, 3) := by decide +kernel
theorem dX6_readInto_27 : decode cX6_readInto 27 = .ok (.aload_n 0, 1) := by decide +kernel
theorem dX6_readInto_28 : decode cX6_readInto 28 = .ok (.getfield 33, 3) := by decide +kernel
theorem dX6_readInto_31 : decode cX6_readInto 31 = .ok (.ifCond .eq 33, 3) := by decide +kernel
theorem dX6_readInto_34 : decode cX6_readInto 34 = .ok (.aload_n 0, 1) := by decide +kernel
theorem dX6_readInto_35 : decode cX6_readInto 35 = .ok (.aload_n 1, 1) := by decide +kernel
theorem dX6_readInto_36 : decode cX6_readInto 36 = .ok (.aload_n 0, 1) := by decide +kernel
theorem dX6_readInto_37 : decode cX6_readInto 37 = .ok (.invokevirtual 36, 3) := by decide +kernel
theorem dX6_readInto_40 : decode cX6_readInto 40 = .ok (.invokevirtual 40, 3) := by decide +kernel
theorem dX6_readInto_43 : decode cX6_readInto 43 = .ok (.ifCond .ne 11, 3) := by decide +kernel
theorem dX6_readInto_46 : decode cX6_readInto 46 = .ok (.bipush (-10), 2) := by decide +kernel
theorem dX6_readInto_48 : decode cX6_readInto 48 = .ok (.aload_n 0, 1) := by decide +kernel
theorem dX6_readInto_49 : decode cX6_readInto 49 = .ok (.getfield 44, 3) := by decide +kernel
theorem dX6_readInto_52 : decode cX6_readInto 52 = .ok (.isub, 1) := by decide +kernel
theorem dX6_readInto_53 : decode cX6_readInto 53 = .ok (.ireturn, 1) := by decide +kernel
theorem dX6_readInto_54 : decode cX6_readInto 54 = .ok (.iinc 2 1, 3) := by decide +kernel
theorem dX6_readInto_57 : decode cX6_readInto 57 = .ok (.aload_n 0, 1) := by decide +kernel
theorem dX6_readInto_58 : decode cX6_readInto 58 = .ok (.invokevirtual 30, 3) := by decide +kernel
theorem dX6_readInto_61 : decode cX6_readInto 61 = .ok (.goto (-41), 3) := by decide +kernel
theorem dX6_readInto_64 : decode cX6_readInto 64 = .ok (.iload_n 2, 1) := by decide +kernel
theorem dX6_readInto_65 : decode cX6_readInto 65 = .ok (.ireturn, 1) := by decide +kernel
set_option maxRecDepth 20000 in
theorem ggX6_readItem_X6_readMember : GoodIn wsX6_readItem wsX6_readMember := goodIn_r _ [5, 6, 7, 8, 9, 4, 10, 11, 12, 13, 14, 15, 16, 17, 18, 19, 20, 21, 22, 23, 24, 25, 26, 27, 28, 29, 30, 31, 32, 33, 34, 35, 36, 37, 38, 39, 40, 41, 42, 43, 44, 45, 46, 65, 66, 67, 68, 69, 70, 71, 72, 73, 74, 75, 76, 77, 78, 79] (by decide +kernel) (by decide +kernel)
set_option maxRecDepth 20000 in
theorem gX6_readItem_X6_readMember : GoodIn wsX6_readItem (wsV RX6 47 RX6 yX6_readMember wsX6_readMember) := goodIn_app (goodIn_of _ (by decide +kernel)) ggX6_readItem_X6_readMember
set_option maxRecDepth 20000 in
theorem ggX6_readItem_X6_readSeconds : GoodIn wsX6_readItem wsX6_readSeconds := goodIn_r _ [50, 6, 7, 8, 9, 4, 10, 11, 12, 13, 14, 15, 16, 17, 18, 19, 20, 21, 22, 23, 24, 25, 26, 27, 28, 29, 30, 31, 32, 33, 34, 51, 52, 53, 38, 54, 55, 56, 43, 44, 45, 46, 65, 66, 67, 68, 69, 70, 71, 72, 73, 74, 75, 76, 77, 78, 79] (by decide +kernel) (by decide +kernel)
set_option maxRecDepth 20000 in
theorem gX6_readItem_X6_readSeconds : GoodIn wsX6_readItem (wsV RX6 51 RX6 yX6_readSeconds wsX6_readSeconds) := goodIn_app (goodIn_of _ (by decide +kernel)) ggX6_readItem_X6_readSeconds
set_option maxRecDepth 20000 in
theorem ggX6_readItem_X6_readOnce : GoodIn wsX6_readItem wsX6_readOnce := goodIn_r _ [60, 61, 6, 62, 63, 4, 64, 7, 8, 9, 10, 11, 12, 13, 14, 15, 16, 17, 18, 19, 20, 21, 22, 23, 24, 25, 26, 27, 28, 29, 30, 31, 32, 33, 34, 43, 44, 45, 46, 73, 74, 75, 76, 77, 78, 79, 65, 66, 67, 68, 69, 70, 71, 72] (by decide +kernel) (by decide +kernel)
set_option maxRecDepth 20000 in
theorem gX6_readItem_X6_readOnce : GoodIn wsX6_readItem (wsV RX6 54 RX6 yX6_readOnce wsX6_readOnce) := goodIn_app (goodIn_of _ (by decide +kernel)) ggX6_readItem_X6_readOnce
theorem dX6_readItem_0 : decode cX6_readItem 0 = .ok (.iload_n 2, 1) := by decide +kernel
theorem dX6_readItem_1 : decode cX6_readItem 1 = .ok (.tableswitch 54 0 4 #[35, 41, 47, 47, 47], 35) := by decide +kernel
theorem dX6_readItem_36 : decode cX6_readItem 36 = .ok (.aload_n 0, 1) := by decide +kernel
theorem dX6_readItem_37 : decode cX6_readItem 37 = .ok (.aload_n 1, 1) := by decide +kernel
theorem dX6_readItem_38 : decode cX6_readItem 38 = .ok (.invokevirtual 47, 3) := by decide +kernel
theorem dX6_readItem_41 : decode cX6_readItem 41 = .ok (.ireturn, 1) := by decide +kernel
theorem dX6_readItem_42 : decode cX6_readItem 42 = .ok (.aload_n 0, 1) := by decide +kernel
theorem dX6_readItem_43 : decode cX6_readItem 43 = .ok (.aload_n 1, 1) := by decide +kernel
theorem dX6_readItem_44 : decode cX6_readItem 44 = .ok (.invokevirtual 51, 3) := by decide +kernel
theorem dX6_readItem_47 : decode cX6_readItem 47 = .ok (.ireturn, 1) := by decide +kernel
theorem dX6_readItem_48 : decode cX6_readItem 48 = .ok (.aload_n 0, 1) := by decide +kernel
theorem dX6_readItem_49 : decode cX6_readItem 49 = .ok (.aload_n 1, 1) := by decide +kernel
theorem dX6_readItem_50 : decode cX6_readItem 50 = .ok (.iload_n 2, 1) := by decide +kernel
theorem dX6_readItem_51 : decode cX6_readItem 51 = .ok (.invokevirtual 54, 3) := by decide +kernel
theorem dX6_readItem_54 : decode cX6_readItem 54 = .ok (.ireturn, 1) := by decide +kernel
theorem dX6_readItem_55 : decode cX6_readItem 55 = .ok (.iconst 0, 1) := by decide +kernel
theorem dX6_readItem_56 : decode cX6_readItem 56 = .ok (.ireturn, 1) := by decide +kernel
set_option maxRecDepth 20000 in
theorem ggX6_readMember_X6_readNumber : GoodIn wsX6_readMember wsX6_readNumber := goodIn_r _ [6, 1, 7, 8, 9, 5, 10, 11, 12, 13, 14, 15, 16, 17, 18, 19, 20, 21, 22, 23, 24, 25, 26, 27, 28, 29, 30, 51, 52, 53, 54, 55, 56, 57] (by decide +kernel) (by decide +kernel)
set_option maxRecDepth 20000 in
theorem gX6_readMember_X6_readNumber : GoodIn wsX6_readMember (wsV RX6 60 RX6 yX6_readNumber wsX6_readNumber) := goodIn_app (goodIn_of _ (by decide +kernel)) ggX6_readMember_X6_readNumber
set_option maxRecDepth 20000 in
theorem ggX6_readMember_X2_addMember : GoodIn wsX6_readMember wsX2_addMember := goodIn_r _ [35, 36, 37, 38, 43, 44, 45, 46, 47, 48, 49, 50] (by decide +kernel) (by decide +kernel)
set_option maxRecDepth 20000 in
theorem gX6_readMember_X2_addMember : GoodIn wsX6_readMember (wsV RX6 67 RX2 yX2_addMember wsX2_addMember) := goodIn_app (goodIn_of _ (by decide +kernel)) ggX6_readMember_X2_addMember
set_option maxRecDepth 20000 in
theorem ggX6_readMember_X6_readSemicolon : GoodIn wsX6_readMember wsX6_readSemicolon := goodIn_r _ [42, 14, 7, 8, 9, 5, 10, 11, 12, 13, 15, 16, 17, 18, 19, 20, 21, 22, 51, 52, 53, 54, 55, 56, 57] (by decide +kernel) (by decide +kernel)
set_option maxRecDepth 20000 in
theorem gX6_readMember_X6_readSemicolon : GoodIn wsX6_readMember (wsV RX6 71 RX6 yX6_readSemicolon wsX6_readSemicolon) := goodIn_app (goodIn_of _ (by decide +kernel)) ggX6_readMember_X6_readSemicolon
theorem dX6_readMember_0 : decode cX6_readMember 0 = .ok (.aload_n 1, 1) := by decide +kernel
theorem dX6_readMember_1 : decode cX6_readMember 1 = .ok (.getfield 57, 3) := by decide +kernel
theorem dX6_readMember_4 : decode cX6_readMember 4 = .ok (.bipush 6, 2) := by decide +kernel
theorem dX6_readMember_6 : decode cX6_readMember 6 = .ok (.if_icmp .ge 13, 3) := by decide +kernel
theorem dX6_readMember_9 : decode cX6_readMember 9 = .ok (.aload_n 0, 1) := by decide +kernel
theorem dX6_readMember_10 : decode cX6_readMember 10 = .ok (.iconst 1, 1) := by decide +kernel
theorem dX6_readMember_11 : decode cX6_readMember 11 = .ok (.bipush 20, 2) := by decide +kernel
theorem dX6_readMember_13 : decode cX6_readMember 13 = .ok (.invokevirtual 60, 3) := by decide +kernel
theorem dX6_readMember_16 : decode cX6_readMember 16 = .ok (.ifCond .ne 5, 3) := by decide +kernel
theorem dX6_readMember_19 : decode cX6_readMember 19 = .ok (.iconst 0, 1) := by decide +kernel
theorem dX6_readMember_20 : decode cX6_readMember 20 = .ok (.ireturn, 1) := by decide +kernel
theorem dX6_readMember_21 : decode cX6_readMember 21 = .ok (.aload_n 0, 1) := by decide +kernel
theorem dX6_readMember_22 : decode cX6_readMember 22 = .ok (.getfield 64, 3) := by decide +kernel
theorem dX6_readMember_25 : decode cX6_readMember 25 = .ok (.istore_n 2, 1) := by decide +kernel
theorem dX6_readMember_26 : decode cX6_readMember 26 = .ok (.aload_n 0, 1) := by decide +kernel
theorem dX6_readMember_27 : decode cX6_readMember 27 = .ok (.iconst 0, 1) := by decide +kernel
theorem dX6_readMember_28 : decode cX6_readMember 28 = .ok (.iconst 1, 1) := by decide +kernel
theorem dX6_readMember_29 : decode cX6_readMember 29 = .ok (.invokevirtual 60, 3) := by decide +kernel
theorem dX6_readMember_32 : decode cX6_readMember 32 = .ok (.ifCond .ne 5, 3) := by decide +kernel
theorem dX6_readMember_35 : decode cX6_readMember 35 = .ok (.iconst 0, 1) := by decide +kernel
theorem dX6_readMember_36 : decode cX6_readMember 36 = .ok (.ireturn, 1) := by decide +kernel
theorem dX6_readMember_37 : decode cX6_readMember 37 = .ok (.aload_n 1, 1) := by decide +kernel
theorem dX6_readMember_38 : decode cX6_readMember 38 = .ok (.iload_n 2, 1) := by decide +kernel
theorem dX6_readMember_39 : decode cX6_readMember 39 = .ok (.aload_n 0, 1) := by decide +kernel
theorem dX6_readMember_40 : decode cX6_readMember 40 = .ok (.getfield 64, 3) := by decide +kernel
theorem dX6_readMember_43 : decode cX6_readMember 43 = .ok (.invokevirtual 67, 3) := by decide +kernel
theorem dX6_readMember_46 : decode cX6_readMember 46 = .ok (.aload_n 0, 1) := by decide +kernel
theorem dX6_readMember_47 : decode cX6_readMember 47 = .ok (.invokevirtual 71, 3) := by decide +kernel
theorem dX6_readMember_50 : decode cX6_readMember 50 = .ok (.ireturn, 1) := by decide +kernel
set_option maxRecDepth 20000 in
theorem ggX6_readSeconds_X6_readNumber : GoodIn wsX6_readSeconds wsX6_readNumber := goodIn_r _ [6, 1, 7, 8, 9, 5, 10, 11, 12, 13, 14, 15, 16, 17, 18, 19, 20, 21, 22, 23, 24, 25, 26, 27, 28, 29, 30, 50, 51, 52, 53, 54, 55, 56] (by decide +kernel) (by decide +kernel)
set_option maxRecDepth 20000 in
theorem gX6_readSeconds_X6_readNumber : GoodIn wsX6_readSeconds (wsV RX6 60 RX6 yX6_readNumber wsX6_readNumber) := goodIn_app (goodIn_of _ (by decide +kernel)) ggX6_readSeconds_X6_readNumber
set_option maxRecDepth 20000 in
theorem ggX6_readSeconds_X2_addSeconds : GoodIn wsX6_readSeconds wsX2_addSeconds := goodIn_r _ [35, 36, 37, 42, 43, 44, 45, 46, 47, 48, 49] (by decide +kernel) (by decide +kernel)
set_option maxRecDepth 20000 in
theorem gX6_readSeconds_X2_addSeconds : GoodIn wsX6_readSeconds (wsV RX6 78 RX2 yX2_addSeconds wsX2_addSeconds) := goodIn_app (goodIn_of _ (by decide +kernel)) ggX6_readSeconds_X2_addSeconds
set_option maxRecDepth 20000 in
theorem ggX6_readSeconds_X6_readSemicolon : GoodIn wsX6_readSeconds wsX6_readSemicolon := goodIn_r _ [41, 14, 7, 8, 9, 5, 10, 11, 12, 13, 15, 16, 17, 18, 19, 20, 21, 22, 50, 51, 52, 53, 54, 55, 56] (by decide +kernel) (by decide +kernel)
set_option maxRecDepth 20000 in
theorem gX6_readSeconds_X6_readSemicolon : GoodIn wsX6_readSeconds (wsV RX6 71 RX6 yX6_readSemicolon wsX6_readSemicolon) := goodIn_app (goodIn_of _ (by decide +kernel)) ggX6_readSeconds_X6_readSemicolon
theorem dX6_readSeconds_0 : decode cX6_readSeconds 0 = .ok (.aload_n 1, 1) := by decide +kernel
theorem dX6_readSeconds_1 : decode cX6_readSeconds 1 = .ok (.getfield 75, 3) := by decide +kernel
theorem dX6_readSeconds_4 : decode cX6_readSeconds 4 = .ok (.bipush 8, 2) := by decide +kernel
theorem dX6_readSeconds_6 : decode cX6_readSeconds 6 = .ok (.if_icmp .ge 17, 3) := by decide +kernel
theorem dX6_readSeconds_9 : decode cX6_readSeconds 9 = .ok (.aload_n 0, 1) := by decide +kernel
theorem dX6_readSeconds_10 : decode cX6_readSeconds 10 = .ok (.iconst 0, 1) := by decide +kernel
theorem dX6_readSeconds_11 : decode cX6_readSeconds 11 = .ok (.aload_n 1, 1) := by decide +kernel
theorem dX6_readSeconds_12 : decode cX6_readSeconds 12 = .ok (.getfield 57, 3) := by decide +kernel
theorem dX6_readSeconds_15 : decode cX6_readSeconds 15 = .ok (.iconst 1, 1) := by decide +kernel
theorem dX6_readSeconds_16 : decode cX6_readSeconds 16 = .ok (.isub, 1) := by decide +kernel
theorem dX6_readSeconds_17 : decode cX6_readSeconds 17 = .ok (.invokevirtual 60, 3) := by decide +kernel
theorem dX6_readSeconds_20 : decode cX6_readSeconds 20 = .ok (.ifCond .ne 5, 3) := by decide +kernel
theorem dX6_readSeconds_23 : decode cX6_readSeconds 23 = .ok (.iconst 0, 1) := by decide +kernel
theorem dX6_readSeconds_24 : decode cX6_readSeconds 24 = .ok (.ireturn, 1) := by decide +kernel
theorem dX6_readSeconds_25 : decode cX6_readSeconds 25 = .ok (.aload_n 0, 1) := by decide +kernel
theorem dX6_readSeconds_26 : decode cX6_readSeconds 26 = .ok (.getfield 64, 3) := by decide +kernel
theorem dX6_readSeconds_29 : decode cX6_readSeconds 29 = .ok (.istore_n 2, 1) := by decide +kernel
theorem dX6_readSeconds_30 : decode cX6_readSeconds 30 = .ok (.aload_n 0, 1) := by decide +kernel
theorem dX6_readSeconds_31 : decode cX6_readSeconds 31 = .ok (.iconst 0, 1) := by decide +kernel
theorem dX6_readSeconds_32 : decode cX6_readSeconds 32 = .ok (.aload_n 1, 1) := by decide +kernel
theorem dX6_readSeconds_33 : decode cX6_readSeconds 33 = .ok (.getfield 57, 3) := by decide +kernel
theorem dX6_readSeconds_36 : decode cX6_readSeconds 36 = .ok (.iconst 1, 1) := by decide +kernel
theorem dX6_readSeconds_37 : decode cX6_readSeconds 37 = .ok (.isub, 1) := by decide +kernel
theorem dX6_readSeconds_38 : decode cX6_readSeconds 38 = .ok (.invokevirtual 60, 3) := by decide +kernel
theorem dX6_readSeconds_41 : decode cX6_readSeconds 41 = .ok (.ifCond .eq 11, 3) := by decide +kernel
theorem dX6_readSeconds_44 : decode cX6_readSeconds 44 = .ok (.aload_n 0, 1) := by decide +kernel
theorem dX6_readSeconds_45 : decode cX6_readSeconds 45 = .ok (.getfield 64, 3) := by decide +kernel
theorem dX6_readSeconds_48 : decode cX6_readSeconds 48 = .ok (.iload_n 2, 1) := by decide +kernel
theorem dX6_readSeconds_49 : decode cX6_readSeconds 49 = .ok (.if_icmp .ne 5, 3) := by decide +kernel
theorem dX6_readSeconds_52 : decode cX6_readSeconds 52 = .ok (.iconst 0, 1) := by decide +kernel
theorem dX6_readSeconds_53 : decode cX6_readSeconds 53 = .ok (.ireturn, 1) := by decide +kernel
theorem dX6_readSeconds_54 : decode cX6_readSeconds 54 = .ok (.aload_n 1, 1) := by decide +kernel
theorem dX6_readSeconds_55 : decode cX6_readSeconds 55 = .ok (.iload_n 2, 1) := by decide +kernel
theorem dX6_readSeconds_56 : decode cX6_readSeconds 56 = .ok (.aload_n 0, 1) := by decide +kernel
theorem dX6_readSeconds_57 : decode cX6_readSeconds 57 = .ok (.getfield 64, 3) := by decide +kernel
theorem dX6_readSeconds_60 : decode cX6_readSeconds 60 = .ok (.invokevirtual 78, 3) := by decide +kernel
theorem dX6_readSeconds_63 : decode cX6_readSeconds 63 = .ok (.aload_n 0, 1) := by decide +kernel
theorem dX6_readSeconds_64 : decode cX6_readSeconds 64 = .ok (.invokevirtual 71, 3) := by decide +kernel
theorem dX6_readSeconds_67 : decode cX6_readSeconds 67 = .ok (.ireturn, 1) := by decide +kernel
set_option maxRecDepth 20000 in
theorem ggX6_readOnce_X6_mostOf : GoodIn wsX6_readOnce wsX6_mostOf := goodIn_r _ [6] (by decide +kernel) (by decide +kernel)
set_option maxRecDepth 20000 in
theorem gX6_readOnce_X6_mostOf : GoodIn wsX6_readOnce (va_wsS RX6 81 yX6_mostOf wsX6_mostOf) := goodIn_app (goodIn_of _ (by decide +kernel)) ggX6_readOnce_X6_mostOf
set_option maxRecDepth 20000 in
theorem ggX6_readOnce_X6_readNumber : GoodIn wsX6_readOnce wsX6_readNumber := goodIn_r _ [10, 2, 11, 12, 13, 5, 14, 15, 16, 17, 18, 19, 20, 21, 22, 23, 24, 25, 26, 27, 28, 29, 30, 31, 32, 33, 34, 39, 40, 41, 42, 43, 44, 45] (by decide +kernel) (by decide +kernel)
set_option maxRecDepth 20000 in
theorem gX6_readOnce_X6_readNumber : GoodIn wsX6_readOnce (wsV RX6 60 RX6 yX6_readNumber wsX6_readNumber) := goodIn_app (goodIn_of _ (by decide +kernel)) ggX6_readOnce_X6_readNumber
set_option maxRecDepth 20000 in
theorem ggX6_readOnce_X6_readSemicolon : GoodIn wsX6_readOnce wsX6_readSemicolon := goodIn_r _ [38, 18, 11, 12, 13, 5, 14, 15, 16, 17, 19, 20, 21, 22, 23, 24, 25, 26, 39, 40, 41, 42, 43, 44, 45] (by decide +kernel) (by decide +kernel)
set_option maxRecDepth 20000 in
theorem gX6_readOnce_X6_readSemicolon : GoodIn wsX6_readOnce (wsV RX6 71 RX6 yX6_readSemicolon wsX6_readSemicolon) := goodIn_app (goodIn_of _ (by decide +kernel)) ggX6_readOnce_X6_readSemicolon
theorem dX6_readOnce_0 : decode cX6_readOnce 0 = .ok (.iconst 1, 1) := by decide +kernel
theorem dX6_readOnce_1 : decode cX6_readOnce 1 = .ok (.iload_n 2, 1) := by decide +kernel
theorem dX6_readOnce_2 : decode cX6_readOnce 2 = .ok (.ishl, 1) := by decide +kernel
theorem dX6_readOnce_3 : decode cX6_readOnce 3 = .ok (.istore_n 3, 1) := by decide +kernel
theorem dX6_readOnce_4 : decode cX6_readOnce 4 = .ok (.aload_n 0, 1) := by decide +kernel
theorem dX6_readOnce_5 : decode cX6_readOnce 5 = .ok (.getfield 27, 3) := by decide +kernel
theorem dX6_readOnce_8 : decode cX6_readOnce 8 = .ok (.iload_n 3, 1) := by decide +kernel
theorem dX6_readOnce_9 : decode cX6_readOnce 9 = .ok (.iand, 1) := by decide +kernel
theorem dX6_readOnce_10 : decode cX6_readOnce 10 = .ok (.ifCond .ne 15, 3) := by decide +kernel
theorem dX6_readOnce_13 : decode cX6_readOnce 13 = .ok (.aload_n 0, 1) := by decide +kernel
theorem dX6_readOnce_14 : decode cX6_readOnce 14 = .ok (.iconst 0, 1) := by decide +kernel
theorem dX6_readOnce_15 : decode cX6_readOnce 15 = .ok (.iload_n 2, 1) := by decide +kernel
theorem dX6_readOnce_16 : decode cX6_readOnce 16 = .ok (.invokestatic 81, 3) := by decide +kernel
theorem dX6_readOnce_19 : decode cX6_readOnce 19 = .ok (.invokevirtual 60, 3) := by decide +kernel
theorem dX6_readOnce_22 : decode cX6_readOnce 22 = .ok (.ifCond .ne 5, 3) := by decide +kernel
theorem dX6_readOnce_25 : decode cX6_readOnce 25 = .ok (.iconst 0, 1) := by decide +kernel
theorem dX6_readOnce_26 : decode cX6_readOnce 26 = .ok (.ireturn, 1) := by decide +kernel
theorem dX6_readOnce_27 : decode cX6_readOnce 27 = .ok (.aload_n 0, 1) := by decide +kernel
theorem dX6_readOnce_28 : decode cX6_readOnce 28 = .ok (.dup, 1) := by decide +kernel
theorem dX6_readOnce_29 : decode cX6_readOnce 29 = .ok (.getfield 27, 3) := by decide +kernel
theorem dX6_readOnce_32 : decode cX6_readOnce 32 = .ok (.iload_n 3, 1) := by decide +kernel
theorem dX6_readOnce_33 : decode cX6_readOnce 33 = .ok (.ior, 1) := by decide +kernel
theorem dX6_readOnce_34 : decode cX6_readOnce 34 = .ok (.putfield 27, 3) := by decide +kernel
theorem dX6_readOnce_37 : decode cX6_readOnce 37 = .ok (.iload_n 2, 1) := by decide +kernel
theorem dX6_readOnce_38 : decode cX6_readOnce 38 = .ok (.iconst 2, 1) := by decide +kernel
theorem dX6_readOnce_39 : decode cX6_readOnce 39 = .ok (.if_icmp .ne 14, 3) := by decide +kernel
theorem dX6_readOnce_42 : decode cX6_readOnce 42 = .ok (.aload_n 1, 1) := by decide +kernel
theorem dX6_readOnce_43 : decode cX6_readOnce 43 = .ok (.aload_n 0, 1) := by decide +kernel
theorem dX6_readOnce_44 : decode cX6_readOnce 44 = .ok (.getfield 64, 3) := by decide +kernel
theorem dX6_readOnce_47 : decode cX6_readOnce 47 = .ok (.putfield 85, 3) := by decide +kernel
theorem dX6_readOnce_50 : decode cX6_readOnce 50 = .ok (.goto 27, 3) := by decide +kernel
theorem dX6_readOnce_53 : decode cX6_readOnce 53 = .ok (.iload_n 2, 1) := by decide +kernel
theorem dX6_readOnce_54 : decode cX6_readOnce 54 = .ok (.iconst 3, 1) := by decide +kernel
theorem dX6_readOnce_55 : decode cX6_readOnce 55 = .ok (.if_icmp .ne 14, 3) := by decide +kernel
theorem dX6_readOnce_58 : decode cX6_readOnce 58 = .ok (.aload_n 1, 1) := by decide +kernel
theorem dX6_readOnce_59 : decode cX6_readOnce 59 = .ok (.aload_n 0, 1) := by decide +kernel
theorem dX6_readOnce_60 : decode cX6_readOnce 60 = .ok (.getfield 64, 3) := by decide +kernel
theorem dX6_readOnce_63 : decode cX6_readOnce 63 = .ok (.putfield 88, 3) := by decide +kernel
theorem dX6_readOnce_66 : decode cX6_readOnce 66 = .ok (.goto 11, 3) := by decide +kernel
theorem dX6_readOnce_69 : decode cX6_readOnce 69 = .ok (.aload_n 1, 1) := by decide +kernel
theorem dX6_readOnce_70 : decode cX6_readOnce 70 = .ok (.aload_n 0, 1) := by decide +kernel
theorem dX6_readOnce_71 : decode cX6_readOnce 71 = .ok (.getfield 64, 3) := by decide +kernel
theorem dX6_readOnce_74 : decode cX6_readOnce 74 = .ok (.putfield 91, 3) := by decide +kernel
theorem dX6_readOnce_77 : decode cX6_readOnce 77 = .ok (.aload_n 0, 1) := by decide +kernel
theorem dX6_readOnce_78 : decode cX6_readOnce 78 = .ok (.invokevirtual 71, 3) := by decide +kernel
theorem dX6_readOnce_81 : decode cX6_readOnce 81 = .ok (.ireturn, 1) := by decide +kernel
theorem dX6_mostOf_0 : decode cX6_mostOf 0 = .ok (.iload_n 0, 1) := by decide +kernel
theorem dX6_mostOf_1 : decode cX6_mostOf 1 = .ok (.iconst 2, 1) := by decide +kernel
theorem dX6_mostOf_2 : decode cX6_mostOf 2 = .ok (.if_icmp .ne 5, 3) := by decide +kernel
theorem dX6_mostOf_5 : decode cX6_mostOf 5 = .ok (.iconst 5, 1) := by decide +kernel
theorem dX6_mostOf_6 : decode cX6_mostOf 6 = .ok (.ireturn, 1) := by decide +kernel
theorem dX6_mostOf_7 : decode cX6_mostOf 7 = .ok (.iload_n 0, 1) := by decide +kernel
theorem dX6_mostOf_8 : decode cX6_mostOf 8 = .ok (.iconst 3, 1) := by decide +kernel
theorem dX6_mostOf_9 : decode cX6_mostOf 9 = .ok (.if_icmp .ne 7, 3) := by decide +kernel
theorem dX6_mostOf_12 : decode cX6_mostOf 12 = .ok (.iconst 5, 1) := by decide +kernel
theorem dX6_mostOf_13 : decode cX6_mostOf 13 = .ok (.goto 5, 3) := by decide +kernel
theorem dX6_mostOf_16 : decode cX6_mostOf 16 = .ok (.bipush 9, 2) := by decide +kernel
theorem dX6_mostOf_18 : decode cX6_mostOf 18 = .ok (.ireturn, 1) := by decide +kernel
set_option maxRecDepth 20000 in
theorem ggX6_readNumber_X6_readToken : GoodIn wsX6_readNumber wsX6_readToken := goodIn_r _ [6, 7, 8, 9, 10, 11, 12, 13, 5, 14, 15, 16, 17, 18, 27, 28, 29, 30, 31, 32, 33] (by decide +kernel) (by decide +kernel)
set_option maxRecDepth 20000 in
theorem gX6_readNumber_X6_readToken : GoodIn wsX6_readNumber (wsV RX6 30 RX6 yX6_readToken wsX6_readToken) := goodIn_app (goodIn_of _ (by decide +kernel)) ggX6_readNumber_X6_readToken
set_option maxRecDepth 20000 in
theorem ggX6_readNumber_X6_valueOfToken : GoodIn wsX6_readNumber wsX6_valueOfToken := goodIn_r _ [22, 10, 9, 7, 23, 24, 25, 26, 11, 12, 13, 5, 14, 8, 15, 27, 28, 29, 30, 31, 32, 33] (by decide +kernel) (by decide +kernel)
set_option maxRecDepth 20000 in
theorem gX6_readNumber_X6_valueOfToken : GoodIn wsX6_readNumber (wsV RX6 94 RX6 yX6_valueOfToken wsX6_valueOfToken) := goodIn_app (goodIn_of _ (by decide +kernel)) ggX6_readNumber_X6_valueOfToken
theorem dX6_readNumber_0 : decode cX6_readNumber 0 = .ok (.aload_n 0, 1) := by decide +kernel
theorem dX6_readNumber_1 : decode cX6_readNumber 1 = .ok (.invokevirtual 30, 3) := by decide +kernel
theorem dX6_readNumber_4 : decode cX6_readNumber 4 = .ok (.aload_n 0, 1) := by decide +kernel
theorem dX6_readNumber_5 : decode cX6_readNumber 5 = .ok (.aload_n 0, 1) := by decide +kernel
theorem dX6_readNumber_6 : decode cX6_readNumber 6 = .ok (.invokevirtual 94, 3) := by decide +kernel
theorem dX6_readNumber_9 : decode cX6_readNumber 9 = .ok (.putfield 64, 3) := by decide +kernel
theorem dX6_readNumber_12 : decode cX6_readNumber 12 = .ok (.aload_n 0, 1) := by decide +kernel
theorem dX6_readNumber_13 : decode cX6_readNumber 13 = .ok (.getfield 64, 3) := by decide +kernel
theorem dX6_readNumber_16 : decode cX6_readNumber 16 = .ok (.iload_n 1, 1) := by decide +kernel
theorem dX6_readNumber_17 : decode cX6_readNumber 17 = .ok (.if_icmp .lt 15, 3) := by decide +kernel
theorem dX6_readNumber_20 : decode cX6_readNumber 20 = .ok (.aload_n 0, 1) := by decide +kernel
theorem dX6_readNumber_21 : decode cX6_readNumber 21 = .ok (.getfield 64, 3) := by decide +kernel
theorem dX6_readNumber_24 : decode cX6_readNumber 24 = .ok (.iload_n 2, 1) := by decide +kernel
theorem dX6_readNumber_25 : decode cX6_readNumber 25 = .ok (.if_icmp .gt 7, 3) := by decide +kernel
theorem dX6_readNumber_28 : decode cX6_readNumber 28 = .ok (.iconst 1, 1) := by decide +kernel
theorem dX6_readNumber_29 : decode cX6_readNumber 29 = .ok (.goto 4, 3) := by decide +kernel
theorem dX6_readNumber_32 : decode cX6_readNumber 32 = .ok (.iconst 0, 1) := by decide +kernel
theorem dX6_readNumber_33 : decode cX6_readNumber 33 = .ok (.ireturn, 1) := by decide +kernel
set_option maxRecDepth 20000 in
theorem ggX6_readSemicolon_X6_readToken : GoodIn wsX6_readSemicolon wsX6_readToken := goodIn_r _ [6, 7, 8, 9, 1, 10, 11, 12, 5, 13, 14, 15, 16, 17, 18, 19, 20, 21, 22, 23, 24] (by decide +kernel) (by decide +kernel)
set_option maxRecDepth 20000 in
theorem gX6_readSemicolon_X6_readToken : GoodIn wsX6_readSemicolon (wsV RX6 30 RX6 yX6_readToken wsX6_readToken) := goodIn_app (goodIn_of _ (by decide +kernel)) ggX6_readSemicolon_X6_readToken
theorem dX6_readSemicolon_0 : decode cX6_readSemicolon 0 = .ok (.aload_n 0, 1) := by decide +kernel
theorem dX6_readSemicolon_1 : decode cX6_readSemicolon 1 = .ok (.invokevirtual 30, 3) := by decide +kernel
theorem dX6_readSemicolon_4 : decode cX6_readSemicolon 4 = .ok (.aload_n 0, 1) := by decide +kernel
theorem dX6_readSemicolon_5 : decode cX6_readSemicolon 5 = .ok (.getfield 33, 3) := by decide +kernel
theorem dX6_readSemicolon_8 : decode cX6_readSemicolon 8 = .ok (.iconst 3, 1) := by decide +kernel
theorem dX6_readSemicolon_9 : decode cX6_readSemicolon 9 = .ok (.if_icmp .ne 7, 3) := by decide +kernel
theorem dX6_readSemicolon_12 : decode cX6_readSemicolon 12 = .ok (.iconst 1, 1) := by decide +kernel
theorem dX6_readSemicolon_13 : decode cX6_readSemicolon 13 = .ok (.goto 4, 3) := by decide +kernel
theorem dX6_readSemicolon_16 : decode cX6_readSemicolon 16 = .ok (.iconst 0, 1) := by decide +kernel
theorem dX6_readSemicolon_17 : decode cX6_readSemicolon 17 = .ok (.ireturn, 1) := by decide +kernel
set_option maxRecDepth 20000 in
theorem ggX6_readToken_X6_byteAt : GoodIn wsX6_readToken wsX6_byteAt := goodIn_r _ [9, 2, 10, 14, 15, 16, 17, 18, 19, 20] (by decide +kernel) (by decide +kernel)
set_option maxRecDepth 20000 in
theorem gX6_readToken_X6_byteAt : GoodIn wsX6_readToken (wsV RX6 97 RX6 yX6_byteAt wsX6_byteAt) := goodIn_app (goodIn_of _ (by decide +kernel)) ggX6_readToken_X6_byteAt
set_option maxRecDepth 20000 in
theorem ggX6_readToken_X6_kindOf : GoodIn wsX6_readToken wsX6_kindOf := goodIn_r _ [13] (by decide +kernel) (by decide +kernel)
set_option maxRecDepth 20000 in
theorem gX6_readToken_X6_kindOf : GoodIn wsX6_readToken (va_wsS RX6 100 yX6_kindOf wsX6_kindOf) := goodIn_app (goodIn_of _ (by decide +kernel)) ggX6_readToken_X6_kindOf
theorem dX6_readToken_0 : decode cX6_readToken 0 = .ok (.aload_n 0, 1) := by decide +kernel
theorem dX6_readToken_1 : decode cX6_readToken 1 = .ok (.getfield 24, 3) := by decide +kernel
theorem dX6_readToken_4 : decode cX6_readToken 4 = .ok (.aload_n 0, 1) := by decide +kernel
theorem dX6_readToken_5 : decode cX6_readToken 5 = .ok (.getfield 15, 3) := by decide +kernel
theorem dX6_readToken_8 : decode cX6_readToken 8 = .ok (.if_icmp .ge 29, 3) := by decide +kernel
theorem dX6_readToken_11 : decode cX6_readToken 11 = .ok (.aload_n 0, 1) := by decide +kernel
theorem dX6_readToken_12 : decode cX6_readToken 12 = .ok (.aload_n 0, 1) := by decide +kernel
theorem dX6_readToken_13 : decode cX6_readToken 13 = .ok (.getfield 24, 3) := by decide +kernel
theorem dX6_readToken_16 : decode cX6_readToken 16 = .ok (.invokevirtual 97, 3) := by decide +kernel
theorem dX6_readToken_19 : decode cX6_readToken 19 = .ok (.bipush 32, 2) := by decide +kernel
theorem dX6_readToken_21 : decode cX6_readToken 21 = .ok (.if_icmp .ne 16, 3) := by decide +kernel
theorem dX6_readToken_24 : decode cX6_readToken 24 = .ok (.aload_n 0, 1) := by decide +kernel
theorem dX6_readToken_25 : decode cX6_readToken 25 = .ok (.dup, 1) := by decide +kernel
theorem dX6_readToken_26 : decode cX6_readToken 26 = .ok (.getfield 24, 3) := by decide +kernel
theorem dX6_readToken_29 : decode cX6_readToken 29 = .ok (.iconst 1, 1) := by decide +kernel
theorem dX6_readToken_30 : decode cX6_readToken 30 = .ok (.iadd, 1) := by decide +kernel
theorem dX6_readToken_31 : decode cX6_readToken 31 = .ok (.putfield 24, 3) := by decide +kernel
theorem dX6_readToken_34 : decode cX6_readToken 34 = .ok (.goto (-34), 3) := by decide +kernel
theorem dX6_readToken_37 : decode cX6_readToken 37 = .ok (.aload_n 0, 1) := by decide +kernel
theorem dX6_readToken_38 : decode cX6_readToken 38 = .ok (.aload_n 0, 1) := by decide +kernel
theorem dX6_readToken_39 : decode cX6_readToken 39 = .ok (.getfield 24, 3) := by decide +kernel
theorem dX6_readToken_42 : decode cX6_readToken 42 = .ok (.putfield 44, 3) := by decide +kernel
theorem dX6_readToken_45 : decode cX6_readToken 45 = .ok (.aload_n 0, 1) := by decide +kernel
theorem dX6_readToken_46 : decode cX6_readToken 46 = .ok (.aload_n 0, 1) := by decide +kernel
theorem dX6_readToken_47 : decode cX6_readToken 47 = .ok (.aload_n 0, 1) := by decide +kernel
theorem dX6_readToken_48 : decode cX6_readToken 48 = .ok (.getfield 44, 3) := by decide +kernel
theorem dX6_readToken_51 : decode cX6_readToken 51 = .ok (.invokevirtual 97, 3) := by decide +kernel
theorem dX6_readToken_54 : decode cX6_readToken 54 = .ok (.invokestatic 100, 3) := by decide +kernel
theorem dX6_readToken_57 : decode cX6_readToken 57 = .ok (.putfield 33, 3) := by decide +kernel
theorem dX6_readToken_60 : decode cX6_readToken 60 = .ok (.aload_n 0, 1) := by decide +kernel
theorem dX6_readToken_61 : decode cX6_readToken 61 = .ok (.getfield 33, 3) := by decide +kernel
theorem dX6_readToken_64 : decode cX6_readToken 64 = .ok (.ifCond .eq 7, 3) := by decide +kernel
theorem dX6_readToken_67 : decode cX6_readToken 67 = .ok (.iconst 1, 1) := by decide +kernel
theorem dX6_readToken_68 : decode cX6_readToken 68 = .ok (.goto 4, 3) := by decide +kernel
theorem dX6_readToken_71 : decode cX6_readToken 71 = .ok (.iconst 0, 1) := by decide +kernel
theorem dX6_readToken_72 : decode cX6_readToken 72 = .ok (.istore_n 1, 1) := by decide +kernel
theorem dX6_readToken_73 : decode cX6_readToken 73 = .ok (.aload_n 0, 1) := by decide +kernel
theorem dX6_readToken_74 : decode cX6_readToken 74 = .ok (.getfield 24, 3) := by decide +kernel
theorem dX6_readToken_77 : decode cX6_readToken 77 = .ok (.aload_n 0, 1) := by decide +kernel
theorem dX6_readToken_78 : decode cX6_readToken 78 = .ok (.getfield 15, 3) := by decide +kernel
theorem dX6_readToken_81 : decode cX6_readToken 81 = .ok (.if_icmp .ge 60, 3) := by decide +kernel
theorem dX6_readToken_84 : decode cX6_readToken 84 = .ok (.iload_n 1, 1) := by decide +kernel
theorem dX6_readToken_85 : decode cX6_readToken 85 = .ok (.ifCond .eq 56, 3) := by decide +kernel
theorem dX6_readToken_88 : decode cX6_readToken 88 = .ok (.aload_n 0, 1) := by decide +kernel
theorem dX6_readToken_89 : decode cX6_readToken 89 = .ok (.dup, 1) := by decide +kernel
theorem dX6_readToken_90 : decode cX6_readToken 90 = .ok (.getfield 24, 3) := by decide +kernel
theorem dX6_readToken_93 : decode cX6_readToken 93 = .ok (.iconst 1, 1) := by decide +kernel
theorem dX6_readToken_94 : decode cX6_readToken 94 = .ok (.iadd, 1) := by decide +kernel
theorem dX6_readToken_95 : decode cX6_readToken 95 = .ok (.putfield 24, 3) := by decide +kernel
theorem dX6_readToken_98 : decode cX6_readToken 98 = .ok (.aload_n 0, 1) := by decide +kernel
theorem dX6_readToken_99 : decode cX6_readToken 99 = .ok (.getfield 33, 3) := by decide +kernel
theorem dX6_readToken_102 : decode cX6_readToken 102 = .ok (.iconst 2, 1) := by decide +kernel
theorem dX6_readToken_103 : decode cX6_readToken 103 = .ok (.if_icmp .eq 11, 3) := by decide +kernel
theorem dX6_readToken_106 : decode cX6_readToken 106 = .ok (.aload_n 0, 1) := by decide +kernel
theorem dX6_readToken_107 : decode cX6_readToken 107 = .ok (.getfield 33, 3) := by decide +kernel
theorem dX6_readToken_110 : decode cX6_readToken 110 = .ok (.iconst 4, 1) := by decide +kernel
theorem dX6_readToken_111 : decode cX6_readToken 111 = .ok (.if_icmp .ne 25, 3) := by decide +kernel
theorem dX6_readToken_114 : decode cX6_readToken 114 = .ok (.aload_n 0, 1) := by decide +kernel
theorem dX6_readToken_115 : decode cX6_readToken 115 = .ok (.aload_n 0, 1) := by decide +kernel
theorem dX6_readToken_116 : decode cX6_readToken 116 = .ok (.getfield 24, 3) := by decide +kernel
theorem dX6_readToken_119 : decode cX6_readToken 119 = .ok (.invokevirtual 97, 3) := by decide +kernel
theorem dX6_readToken_122 : decode cX6_readToken 122 = .ok (.invokestatic 100, 3) := by decide +kernel
theorem dX6_readToken_125 : decode cX6_readToken 125 = .ok (.aload_n 0, 1) := by decide +kernel
theorem dX6_readToken_126 : decode cX6_readToken 126 = .ok (.getfield 33, 3) := by decide +kernel
theorem dX6_readToken_129 : decode cX6_readToken 129 = .ok (.if_icmp .ne 7, 3) := by decide +kernel
theorem dX6_readToken_132 : decode cX6_readToken 132 = .ok (.iconst 1, 1) := by decide +kernel
theorem dX6_readToken_133 : decode cX6_readToken 133 = .ok (.goto 4, 3) := by decide +kernel
theorem dX6_readToken_136 : decode cX6_readToken 136 = .ok (.iconst 0, 1) := by decide +kernel
theorem dX6_readToken_137 : decode cX6_readToken 137 = .ok (.istore_n 1, 1) := by decide +kernel
theorem dX6_readToken_138 : decode cX6_readToken 138 = .ok (.goto (-65), 3) := by decide +kernel
theorem dX6_readToken_141 : decode cX6_readToken 141 = .ok (.return_, 1) := by decide +kernel
set_option maxRecDepth 20000 in
theorem ggX6_valueOfToken_X6_byteAt : GoodIn wsX6_valueOfToken wsX6_byteAt := goodIn_r _ [12, 13, 14, 15, 16, 17, 18, 19, 20, 21] (by decide +kernel) (by decide +kernel)
set_option maxRecDepth 20000 in
theorem gX6_valueOfToken_X6_byteAt : GoodIn wsX6_valueOfToken (wsV RX6 97 RX6 yX6_byteAt wsX6_byteAt) := goodIn_app (goodIn_of _ (by decide +kernel)) ggX6_valueOfToken_X6_byteAt
theorem dX6_valueOfToken_0 : decode cX6_valueOfToken 0 = .ok (.aload_n 0, 1) := by decide +kernel
theorem dX6_valueOfToken_1 : decode cX6_valueOfToken 1 = .ok (.getfield 33, 3) := by decide +kernel
theorem dX6_valueOfToken_4 : decode cX6_valueOfToken 4 = .ok (.iconst 2, 1) := by decide +kernel
theorem dX6_valueOfToken_5 : decode cX6_valueOfToken 5 = .ok (.if_icmp .ne 29, 3) := by decide +kernel
theorem dX6_valueOfToken_8 : decode cX6_valueOfToken 8 = .ok (.aload_n 0, 1) := by decide +kernel
theorem dX6_valueOfToken_9 : decode cX6_valueOfToken 9 = .ok (.aload_n 0, 1) := by decide +kernel
theorem dX6_valueOfToken_10 : decode cX6_valueOfToken 10 = .ok (.getfield 44, 3) := by decide +kernel
theorem dX6_valueOfToken_13 : decode cX6_valueOfToken 13 = .ok (.invokevirtual 97, 3) := by decide +kernel
theorem dX6_valueOfToken_16 : decode cX6_valueOfToken 16 = .ok (.bipush 48, 2) := by decide +kernel
theorem dX6_valueOfToken_18 : decode cX6_valueOfToken 18 = .ok (.if_icmp .ne 19, 3) := by decide +kernel
theorem dX6_valueOfToken_21 : decode cX6_valueOfToken 21 = .ok (.aload_n 0, 1) := by decide +kernel
theorem dX6_valueOfToken_22 : decode cX6_valueOfToken 22 = .ok (.getfield 24, 3) := by decide +kernel
theorem dX6_valueOfToken_25 : decode cX6_valueOfToken 25 = .ok (.aload_n 0, 1) := by decide +kernel
theorem dX6_valueOfToken_26 : decode cX6_valueOfToken 26 = .ok (.getfield 44, 3) := by decide +kernel
theorem dX6_valueOfToken_29 : decode cX6_valueOfToken 29 = .ok (.isub, 1) := by decide +kernel
theorem dX6_valueOfToken_30 : decode cX6_valueOfToken 30 = .ok (.iconst 1, 1) := by decide +kernel
theorem dX6_valueOfToken_31 : decode cX6_valueOfToken 31 = .ok (.if_icmp .le 6, 3) := by decide +kernel
theorem dX6_valueOfToken_34 : decode cX6_valueOfToken 34 = .ok (.bipush 100, 2) := by decide +kernel
theorem dX6_valueOfToken_36 : decode cX6_valueOfToken 36 = .ok (.ireturn, 1) := by decide +kernel
theorem dX6_valueOfToken_37 : decode cX6_valueOfToken 37 = .ok (.iconst 0, 1) := by decide +kernel
theorem dX6_valueOfToken_38 : decode cX6_valueOfToken 38 = .ok (.istore_n 1, 1) := by decide +kernel
theorem dX6_valueOfToken_39 : decode cX6_valueOfToken 39 = .ok (.aload_n 0, 1) := by decide +kernel
theorem dX6_valueOfToken_40 : decode cX6_valueOfToken 40 = .ok (.getfield 44, 3) := by decide +kernel
theorem dX6_valueOfToken_43 : decode cX6_valueOfToken 43 = .ok (.istore_n 2, 1) := by decide +kernel
theorem dX6_valueOfToken_44 : decode cX6_valueOfToken 44 = .ok (.iload_n 2, 1) := by decide +kernel
theorem dX6_valueOfToken_45 : decode cX6_valueOfToken 45 = .ok (.aload_n 0, 1) := by decide +kernel
theorem dX6_valueOfToken_46 : decode cX6_valueOfToken 46 = .ok (.getfield 24, 3) := by decide +kernel
theorem dX6_valueOfToken_49 : decode cX6_valueOfToken 49 = .ok (.if_icmp .ge 28, 3) := by decide +kernel
theorem dX6_valueOfToken_52 : decode cX6_valueOfToken 52 = .ok (.bipush 100, 2) := by decide +kernel
theorem dX6_valueOfToken_54 : decode cX6_valueOfToken 54 = .ok (.iload_n 1, 1) := by decide +kernel
theorem dX6_valueOfToken_55 : decode cX6_valueOfToken 55 = .ok (.bipush 10, 2) := by decide +kernel
theorem dX6_valueOfToken_57 : decode cX6_valueOfToken 57 = .ok (.imul, 1) := by decide +kernel
theorem dX6_valueOfToken_58 : decode cX6_valueOfToken 58 = .ok (.aload_n 0, 1) := by decide +kernel
theorem dX6_valueOfToken_59 : decode cX6_valueOfToken 59 = .ok (.iload_n 2, 1) := by decide +kernel
theorem dX6_valueOfToken_60 : decode cX6_valueOfToken 60 = .ok (.invokevirtual 97, 3) := by decide +kernel
theorem dX6_valueOfToken_63 : decode cX6_valueOfToken 63 = .ok (.iadd, 1) := by decide +kernel
theorem dX6_valueOfToken_64 : decode cX6_valueOfToken 64 = .ok (.bipush 48, 2) := by decide +kernel
theorem dX6_valueOfToken_66 : decode cX6_valueOfToken 66 = .ok (.isub, 1) := by decide +kernel
theorem dX6_valueOfToken_67 : decode cX6_valueOfToken 67 = .ok (.invokestatic 103, 3) := by decide +kernel
theorem dX6_valueOfToken_70 : decode cX6_valueOfToken 70 = .ok (.istore_n 1, 1) := by decide +kernel
theorem dX6_valueOfToken_71 : decode cX6_valueOfToken 71 = .ok (.iinc 2 1, 3) := by decide +kernel
theorem dX6_valueOfToken_74 : decode cX6_valueOfToken 74 = .ok (.goto (-30), 3) := by decide +kernel
theorem dX6_valueOfToken_77 : decode cX6_valueOfToken 77 = .ok (.iload_n 1, 1) := by decide +kernel
theorem dX6_valueOfToken_78 : decode cX6_valueOfToken 78 = .ok (.ireturn, 1) := by decide +kernel
set_option maxRecDepth 20000 in
theorem ggX6_whichWord_X6_isWord : GoodIn wsX6_whichWord wsX6_isWord := goodIn_r _ [5, 6, 7, 8, 9, 10, 11, 12, 13, 14, 15, 16, 17, 18, 19, 20, 21, 22, 4, 23, 24, 25, 26, 27, 28, 29, 30, 31, 32, 33, 34, 35, 36, 37, 38, 39, 40, 41, 42, 43, 44, 45, 46, 47, 48, 49, 50, 51, 52, 53, 54, 55, 56, 57, 58, 59, 60, 61, 62, 63, 64, 65, 66, 67, 68, 69] (by decide +kernel) (by decide +kernel)
set_option maxRecDepth 20000 in
theorem gX6_whichWord_X6_isWord : GoodIn wsX6_whichWord (wsV RX6 111 RX6 yX6_isWord wsX6_isWord) := goodIn_app (goodIn_of _ (by decide +kernel)) ggX6_whichWord_X6_isWord
theorem dX6_whichWord_0 : decode cX6_whichWord 0 = .ok (.aload_n 0, 1) := by decide +kernel
theorem dX6_whichWord_1 : decode cX6_whichWord 1 = .ok (.ldc 109, 2) := by decide +kernel
theorem dX6_whichWord_3 : decode cX6_whichWord 3 = .ok (.invokevirtual 111, 3) := by decide +kernel
theorem dX6_whichWord_6 : decode cX6_whichWord 6 = .ok (.ifCond .eq 5, 3) := by decide +kernel
theorem dX6_whichWord_9 : decode cX6_whichWord 9 = .ok (.iconst 0, 1) := by decide +kernel
theorem dX6_whichWord_10 : decode cX6_whichWord 10 = .ok (.ireturn, 1) := by decide +kernel
theorem dX6_whichWord_11 : decode cX6_whichWord 11 = .ok (.aload_n 0, 1) := by decide +kernel
theorem dX6_whichWord_12 : decode cX6_whichWord 12 = .ok (.ldc 115, 2) := by decide +kernel
theorem dX6_whichWord_14 : decode cX6_whichWord 14 = .ok (.invokevirtual 111, 3) := by decide +kernel
theorem dX6_whichWord_17 : decode cX6_whichWord 17 = .ok (.ifCond .eq 5, 3) := by decide +kernel
theorem dX6_whichWord_20 : decode cX6_whichWord 20 = .ok (.iconst 1, 1) := by decide +kernel
theorem dX6_whichWord_21 : decode cX6_whichWord 21 = .ok (.ireturn, 1) := by decide +kernel
theorem dX6_whichWord_22 : decode cX6_whichWord 22 = .ok (.aload_n 0, 1) := by decide +kernel
theorem dX6_whichWord_23 : decode cX6_whichWord 23 = .ok (.ldc 116, 2) := by decide +kernel
theorem dX6_whichWord_25 : decode cX6_whichWord 25 = .ok (.invokevirtual 111, 3) := by decide +kernel
theorem dX6_whichWord_28 : decode cX6_whichWord 28 = .ok (.ifCond .eq 5, 3) := by decide +kernel
theorem dX6_whichWord_31 : decode cX6_whichWord 31 = .ok (.iconst 2, 1) := by decide +kernel
theorem dX6_whichWord_32 : decode cX6_whichWord 32 = .ok (.ireturn, 1) := by decide +kernel
theorem dX6_whichWord_33 : decode cX6_whichWord 33 = .ok (.aload_n 0, 1) := by decide +kernel
theorem dX6_whichWord_34 : decode cX6_whichWord 34 = .ok (.ldc 117, 2) := by decide +kernel
theorem dX6_whichWord_36 : decode cX6_whichWord 36 = .ok (.invokevirtual 111, 3) := by decide +kernel
theorem dX6_whichWord_39 : decode cX6_whichWord 39 = .ok (.ifCond .eq 5, 3) := by decide +kernel
theorem dX6_whichWord_42 : decode cX6_whichWord 42 = .ok (.iconst 3, 1) := by decide +kernel
theorem dX6_whichWord_43 : decode cX6_whichWord 43 = .ok (.ireturn, 1) := by decide +kernel
theorem dX6_whichWord_44 : decode cX6_whichWord 44 = .ok (.aload_n 0, 1) := by decide +kernel
theorem dX6_whichWord_45 : decode cX6_whichWord 45 = .ok (.ldc 118, 2) := by decide +kernel
theorem dX6_whichWord_47 : decode cX6_whichWord 47 = .ok (.invokevirtual 111, 3) := by decide +kernel
theorem dX6_whichWord_50 : decode cX6_whichWord 50 = .ok (.ifCond .eq 7, 3) := by decide +kernel
theorem dX6_whichWord_53 : decode cX6_whichWord 53 = .ok (.iconst 4, 1) := by decide +kernel
theorem dX6_whichWord_54 : decode cX6_whichWord 54 = .ok (.goto 4, 3) := by decide +kernel
theorem dX6_whichWord_57 : decode cX6_whichWord 57 = .ok (.iconst 5, 1) := by decide +kernel
theorem dX6_whichWord_58 : decode cX6_whichWord 58 = .ok (.ireturn, 1) := by decide +kernel
set_option maxRecDepth 20000 in
theorem ggX6_isWord_J0_length_8abf5 : GoodIn wsX6_isWord wsJ0_length_8abf5 := goodIn_r _ [7, 8, 9, 10, 11, 6, 12, 13, 14] (by decide +kernel) (by decide +kernel)
set_option maxRecDepth 20000 in
theorem gX6_isWord_J0_length_8abf5 : GoodIn wsX6_isWord (wsV RX6 119 RJ0 yJ0_length_8abf5 wsJ0_length_8abf5) := goodIn_app (goodIn_of _ (by decide +kernel)) ggX6_isWord_J0_length_8abf5
set_option maxRecDepth 20000 in
theorem ggX6_isWord_X6_byteAt : GoodIn wsX6_isWord wsX6_byteAt := goodIn_r _ [19, 20, 21, 59, 60, 61, 62, 63, 64, 65] (by decide +kernel) (by decide +kernel)
set_option maxRecDepth 20000 in
theorem gX6_isWord_X6_byteAt : GoodIn wsX6_isWord (wsV RX6 97 RX6 yX6_byteAt wsX6_byteAt) := goodIn_app (goodIn_of _ (by decide +kernel)) ggX6_isWord_X6_byteAt
set_option maxRecDepth 20000 in
theorem ggX6_isWord_J0_charAt_5068e : GoodIn wsX6_isWord wsJ0_charAt_5068e := goodIn_r _ [25, 8, 26, 27, 28, 6, 29, 13, 14, 30, 31, 32, 33, 34, 35, 36, 37, 38, 39, 40, 41, 42, 43, 44, 45, 46, 47, 48, 49, 50, 51, 52, 53, 54, 55, 56, 57, 58] (by decide +kernel) (by decide +kernel)
set_option maxRecDepth 20000 in
theorem gX6_isWord_J0_charAt_5068e : GoodIn wsX6_isWord (wsV RX6 123 RJ0 yJ0_charAt_5068e wsJ0_charAt_5068e) := goodIn_app (goodIn_of _ (by decide +kernel)) ggX6_isWord_J0_charAt_5068e
theorem dX6_isWord_0 : decode cX6_isWord 0 = .ok (.aload_n 0, 1) := by decide +kernel
theorem dX6_isWord_1 : decode cX6_isWord 1 = .ok (.getfield 24, 3) := by decide +kernel
theorem dX6_isWord_4 : decode cX6_isWord 4 = .ok (.aload_n 0, 1) := by decide +kernel
theorem dX6_isWord_5 : decode cX6_isWord 5 = .ok (.getfield 44, 3) := by decide +kernel
theorem dX6_isWord_8 : decode cX6_isWord 8 = .ok (.isub, 1) := by decide +kernel
theorem dX6_isWord_9 : decode cX6_isWord 9 = .ok (.aload_n 1, 1) := by decide +kernel
theorem dX6_isWord_10 : decode cX6_isWord 10 = .ok (.invokevirtual 119, 3) := by decide +kernel
theorem dX6_isWord_13 : decode cX6_isWord 13 = .ok (.if_icmp .eq 5, 3) := by decide +kernel
theorem dX6_isWord_16 : decode cX6_isWord 16 = .ok (.iconst 0, 1) := by decide +kernel
theorem dX6_isWord_17 : decode cX6_isWord 17 = .ok (.ireturn, 1) := by decide +kernel
theorem dX6_isWord_18 : decode cX6_isWord 18 = .ok (.iconst 0, 1) := by decide +kernel
theorem dX6_isWord_19 : decode cX6_isWord 19 = .ok (.istore_n 2, 1) := by decide +kernel
theorem dX6_isWord_20 : decode cX6_isWord 20 = .ok (.iload_n 2, 1) := by decide +kernel
theorem dX6_isWord_21 : decode cX6_isWord 21 = .ok (.aload_n 1, 1) := by decide +kernel
theorem dX6_isWord_22 : decode cX6_isWord 22 = .ok (.invokevirtual 119, 3) := by decide +kernel
theorem dX6_isWord_25 : decode cX6_isWord 25 = .ok (.if_icmp .ge 29, 3) := by decide +kernel
theorem dX6_isWord_28 : decode cX6_isWord 28 = .ok (.aload_n 0, 1) := by decide +kernel
theorem dX6_isWord_29 : decode cX6_isWord 29 = .ok (.aload_n 0, 1) := by decide +kernel
theorem dX6_isWord_30 : decode cX6_isWord 30 = .ok (.getfield 44, 3) := by decide +kernel
theorem dX6_isWord_33 : decode cX6_isWord 33 = .ok (.iload_n 2, 1) := by decide +kernel
theorem dX6_isWord_34 : decode cX6_isWord 34 = .ok (.iadd, 1) := by decide +kernel
theorem dX6_isWord_35 : decode cX6_isWord 35 = .ok (.invokevirtual 97, 3) := by decide +kernel
theorem dX6_isWord_38 : decode cX6_isWord 38 = .ok (.aload_n 1, 1) := by decide +kernel
theorem dX6_isWord_39 : decode cX6_isWord 39 = .ok (.iload_n 2, 1) := by decide +kernel
theorem dX6_isWord_40 : decode cX6_isWord 40 = .ok (.invokevirtual 123, 3) := by decide +kernel
theorem dX6_isWord_43 : decode cX6_isWord 43 = .ok (.if_icmp .eq 5, 3) := by decide +kernel
theorem dX6_isWord_46 : decode cX6_isWord 46 = .ok (.iconst 0, 1) := by decide +kernel
theorem dX6_isWord_47 : decode cX6_isWord 47 = .ok (.ireturn, 1) := by decide +kernel
theorem dX6_isWord_48 : decode cX6_isWord 48 = .ok (.iinc 2 1, 3) := by decide +kernel
theorem dX6_isWord_51 : decode cX6_isWord 51 = .ok (.goto (-31), 3) := by decide +kernel
theorem dX6_isWord_54 : decode cX6_isWord 54 = .ok (.iconst 1, 1) := by decide +kernel
theorem dX6_isWord_55 : decode cX6_isWord 55 = .ok (.ireturn, 1) := by decide +kernel
theorem dX6_kindOf_0 : decode cX6_kindOf 0 = .ok (.iload_n 0, 1) := by decide +kernel
theorem dX6_kindOf_1 : decode cX6_kindOf 1 = .ok (.ifCond .ge 5, 3) := by decide +kernel
theorem dX6_kindOf_4 : decode cX6_kindOf 4 = .ok (.iconst 0, 1) := by decide +kernel
theorem dX6_kindOf_5 : decode cX6_kindOf 5 = .ok (.ireturn, 1) := by decide +kernel
theorem dX6_kindOf_6 : decode cX6_kindOf 6 = .ok (.iload_n 0, 1) := by decide +kernel
theorem dX6_kindOf_7 : decode cX6_kindOf 7 = .ok (.bipush 48, 2) := by decide +kernel
theorem dX6_kindOf_9 : decode cX6_kindOf 9 = .ok (.if_icmp .lt 11, 3) := by decide +kernel
theorem dX6_kindOf_12 : decode cX6_kindOf 12 = .ok (.iload_n 0, 1) := by decide +kernel
theorem dX6_kindOf_13 : decode cX6_kindOf 13 = .ok (.bipush 57, 2) := by decide +kernel
theorem dX6_kindOf_15 : decode cX6_kindOf 15 = .ok (.if_icmp .gt 5, 3) := by decide +kernel
theorem dX6_kindOf_18 : decode cX6_kindOf 18 = .ok (.iconst 2, 1) := by decide +kernel
theorem dX6_kindOf_19 : decode cX6_kindOf 19 = .ok (.ireturn, 1) := by decide +kernel
theorem dX6_kindOf_20 : decode cX6_kindOf 20 = .ok (.iload_n 0, 1) := by decide +kernel
theorem dX6_kindOf_21 : decode cX6_kindOf 21 = .ok (.bipush 97, 2) := by decide +kernel
theorem dX6_kindOf_23 : decode cX6_kindOf 23 = .ok (.if_icmp .lt 11, 3) := by decide +kernel
theorem dX6_kindOf_26 : decode cX6_kindOf 26 = .ok (.iload_n 0, 1) := by decide +kernel
theorem dX6_kindOf_27 : decode cX6_kindOf 27 = .ok (.bipush 122, 2) := by decide +kernel
theorem dX6_kindOf_29 : decode cX6_kindOf 29 = .ok (.if_icmp .gt 5, 3) := by decide +kernel
theorem dX6_kindOf_32 : decode cX6_kindOf 32 = .ok (.iconst 4, 1) := by decide +kernel
theorem dX6_kindOf_33 : decode cX6_kindOf 33 = .ok (.ireturn, 1) := by decide +kernel
theorem dX6_kindOf_34 : decode cX6_kindOf 34 = .ok (.iload_n 0, 1) := by decide +kernel
theorem dX6_kindOf_35 : decode cX6_kindOf 35 = .ok (.bipush 59, 2) := by decide +kernel
theorem dX6_kindOf_37 : decode cX6_kindOf 37 = .ok (.if_icmp .ne 7, 3) := by decide +kernel
theorem dX6_kindOf_40 : decode cX6_kindOf 40 = .ok (.iconst 3, 1) := by decide +kernel
theorem dX6_kindOf_41 : decode cX6_kindOf 41 = .ok (.goto 4, 3) := by decide +kernel
theorem dX6_kindOf_44 : decode cX6_kindOf 44 = .ok (.iconst 1, 1) := by decide +kernel
theorem dX6_kindOf_45 : decode cX6_kindOf 45 = .ok (.ireturn, 1) := by decide +kernel
theorem dX6_byteAt_0 : decode cX6_byteAt 0 = .ok (.iload_n 1, 1) := by decide +kernel
theorem dX6_byteAt_1 : decode cX6_byteAt 1 = .ok (.ifCond .lt 33, 3) := by decide +kernel
theorem dX6_byteAt_4 : decode cX6_byteAt 4 = .ok (.iload_n 1, 1) := by decide +kernel
theorem dX6_byteAt_5 : decode cX6_byteAt 5 = .ok (.aload_n 0, 1) := by decide +kernel
theorem dX6_byteAt_6 : decode cX6_byteAt 6 = .ok (.getfield 15, 3) := by decide +kernel
theorem dX6_byteAt_9 : decode cX6_byteAt 9 = .ok (.if_icmp .ge 25, 3) := by decide +kernel
theorem dX6_byteAt_12 : decode cX6_byteAt 12 = .ok (.iload_n 1, 1) := by decide +kernel
theorem dX6_byteAt_13 : decode cX6_byteAt 13 = .ok (.aload_n 0, 1) := by decide +kernel
theorem dX6_byteAt_14 : decode cX6_byteAt 14 = .ok (.getfield 9, 3) := by decide +kernel
theorem dX6_byteAt_17 : decode cX6_byteAt 17 = .ok (.arraylength, 1) := by decide +kernel
theorem dX6_byteAt_18 : decode cX6_byteAt 18 = .ok (.if_icmp .ge 16, 3) := by decide +kernel
theorem dX6_byteAt_21 : decode cX6_byteAt 21 = .ok (.aload_n 0, 1) := by decide +kernel
theorem dX6_byteAt_22 : decode cX6_byteAt 22 = .ok (.getfield 9, 3) := by decide +kernel
theorem dX6_byteAt_25 : decode cX6_byteAt 25 = .ok (.iload_n 1, 1) := by decide +kernel
theorem dX6_byteAt_26 : decode cX6_byteAt 26 = .ok (.baload, 1) := by decide +kernel
theorem dX6_byteAt_27 : decode cX6_byteAt 27 = .ok (.sipush 255, 3) := by decide +kernel
theorem dX6_byteAt_30 : decode cX6_byteAt 30 = .ok (.iand, 1) := by decide +kernel
theorem dX6_byteAt_31 : decode cX6_byteAt 31 = .ok (.goto 4, 3) := by decide +kernel
theorem dX6_byteAt_34 : decode cX6_byteAt 34 = .ok (.iconst (-1), 1) := by decide +kernel
theorem dX6_byteAt_35 : decode cX6_byteAt 35 = .ok (.ireturn, 1) := by decide +kernel
