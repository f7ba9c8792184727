set_option maxRecDepth 20000 in
theorem ggX2_init_X2_beAsAtFirst : GoodIn wsX2_init wsX2_beAsAtFirst := goodIn_r _ [8, 9, 10, 11, 12, 13, 14, 15, 16, 17, 18, 19, 20, 21, 22, 23, 24] (by decide +kernel) (by decide +kernel)
set_option maxRecDepth 20000 in
theorem gX2_init_X2_beAsAtFirst : GoodIn wsX2_init (wsV RX2 9 RX2 yX2_beAsAtFirst wsX2_beAsAtFirst) := goodIn_app (goodIn_of _ (by decide +kernel)) ggX2_init_X2_beAsAtFirst
theorem dX2_init_0 : decode cX2_init 0 = .ok (.aload_n 0, 1) := by decide +kernel
theorem dX2_init_1 : decode cX2_init 1 = .ok (.invokespecial 3, 3) := by decide +kernel
theorem dX2_init_4 : decode cX2_init 4 = .ok (.aload_n 0, 1) := by decide +kernel
theorem dX2_init_5 : decode cX2_init 5 = .ok (.invokevirtual 9, 3) := by decide +kernel
theorem dX2_init_8 : decode cX2_init 8 = .ok (.return_, 1) := by decide +kernel
theorem dX2_beAsAtFirst_0 : decode cX2_beAsAtFirst 0 = .ok (.aload_n 0, 1) := by decide +kernel
theorem dX2_beAsAtFirst_1 : decode cX2_beAsAtFirst 1 = .ok (.iconst 0, 1) := by decide +kernel
theorem dX2_beAsAtFirst_2 : decode cX2_beAsAtFirst 2 = .ok (.putfield 14, 3) := by decide +kernel
theorem dX2_beAsAtFirst_5 : decode cX2_beAsAtFirst 5 = .ok (.aload_n 0, 1) := by decide +kernel
theorem dX2_beAsAtFirst_6 : decode cX2_beAsAtFirst 6 = .ok (.iconst 0, 1) := by decide +kernel
theorem dX2_beAsAtFirst_7 : decode cX2_beAsAtFirst 7 = .ok (.putfield 18, 3) := by decide +kernel
theorem dX2_beAsAtFirst_10 : decode cX2_beAsAtFirst 10 = .ok (.aload_n 0, 1) := by decide +kernel
theorem dX2_beAsAtFirst_11 : decode cX2_beAsAtFirst 11 = .ok (.iconst 0, 1) := by decide +kernel
theorem dX2_beAsAtFirst_12 : decode cX2_beAsAtFirst 12 = .ok (.putfield 21, 3) := by decide +kernel
theorem dX2_beAsAtFirst_15 : decode cX2_beAsAtFirst 15 = .ok (.aload_n 0, 1) := by decide +kernel
theorem dX2_beAsAtFirst_16 : decode cX2_beAsAtFirst 16 = .ok (.iconst 1, 1) := by decide +kernel
theorem dX2_beAsAtFirst_17 : decode cX2_beAsAtFirst 17 = .ok (.putfield 24, 3) := by decide +kernel
theorem dX2_beAsAtFirst_20 : decode cX2_beAsAtFirst 20 = .ok (.aload_n 0, 1) := by decide +kernel
theorem dX2_beAsAtFirst_21 : decode cX2_beAsAtFirst 21 = .ok (.iconst 1, 1) := by decide +kernel
theorem dX2_beAsAtFirst_22 : decode cX2_beAsAtFirst 22 = .ok (.putfield 27, 3) := by decide +kernel
theorem dX2_beAsAtFirst_25 : decode cX2_beAsAtFirst 25 = .ok (.aload_n 0, 1) := by decide +kernel
theorem dX2_beAsAtFirst_26 : decode cX2_beAsAtFirst 26 = .ok (.iconst 0, 1) := by decide +kernel
theorem dX2_beAsAtFirst_27 : decode cX2_beAsAtFirst 27 = .ok (.putfield 30, 3) := by decide +kernel
theorem dX2_beAsAtFirst_30 : decode cX2_beAsAtFirst 30 = .ok (.aload_n 0, 1) := by decide +kernel
theorem dX2_beAsAtFirst_31 : decode cX2_beAsAtFirst 31 = .ok (.iconst 0, 1) := by decide +kernel
theorem dX2_beAsAtFirst_32 : decode cX2_beAsAtFirst 32 = .ok (.putfield 33, 3) := by decide +kernel
theorem dX2_beAsAtFirst_35 : decode cX2_beAsAtFirst 35 = .ok (.aload_n 0, 1) := by decide +kernel
theorem dX2_beAsAtFirst_36 : decode cX2_beAsAtFirst 36 = .ok (.lconst 0, 1) := by decide +kernel
theorem dX2_beAsAtFirst_37 : decode cX2_beAsAtFirst 37 = .ok (.putfield 36, 3) := by decide +kernel
theorem dX2_beAsAtFirst_40 : decode cX2_beAsAtFirst 40 = .ok (.return_, 1) := by decide +kernel
theorem dX2_addMember_0 : decode cX2_addMember 0 = .ok (.aload_n 0, 1) := by decide +kernel
theorem dX2_addMember_1 : decode cX2_addMember 1 = .ok (.dup, 1) := by decide +kernel
theorem dX2_addMember_2 : decode cX2_addMember 2 = .ok (.getfield 18, 3) := by decide +kernel
theorem dX2_addMember_5 : decode cX2_addMember 5 = .ok (.iload_n 1, 1) := by decide +kernel
theorem dX2_addMember_6 : decode cX2_addMember 6 = .ok (.iconst 5, 1) := by decide +kernel
theorem dX2_addMember_7 : decode cX2_addMember 7 = .ok (.aload_n 0, 1) := by decide +kernel
theorem dX2_addMember_8 : decode cX2_addMember 8 = .ok (.getfield 14, 3) := by decide +kernel
theorem dX2_addMember_11 : decode cX2_addMember 11 = .ok (.imul, 1) := by decide +kernel
theorem dX2_addMember_12 : decode cX2_addMember 12 = .ok (.ishl, 1) := by decide +kernel
theorem dX2_addMember_13 : decode cX2_addMember 13 = .ok (.ior, 1) := by decide +kernel
theorem dX2_addMember_14 : decode cX2_addMember 14 = .ok (.putfield 18, 3) := by decide +kernel
theorem dX2_addMember_17 : decode cX2_addMember 17 = .ok (.aload_n 0, 1) := by decide +kernel
theorem dX2_addMember_18 : decode cX2_addMember 18 = .ok (.dup, 1) := by decide +kernel
theorem dX2_addMember_19 : decode cX2_addMember 19 = .ok (.getfield 21, 3) := by decide +kernel
theorem dX2_addMember_22 : decode cX2_addMember 22 = .ok (.iload_n 2, 1) := by decide +kernel
theorem dX2_addMember_23 : decode cX2_addMember 23 = .ok (.aload_n 0, 1) := by decide +kernel
theorem dX2_addMember_24 : decode cX2_addMember 24 = .ok (.getfield 14, 3) := by decide +kernel
theorem dX2_addMember_27 : decode cX2_addMember 27 = .ok (.ishl, 1) := by decide +kernel
theorem dX2_addMember_28 : decode cX2_addMember 28 = .ok (.ior, 1) := by decide +kernel
theorem dX2_addMember_29 : decode cX2_addMember 29 = .ok (.putfield 21, 3) := by decide +kernel
theorem dX2_addMember_32 : decode cX2_addMember 32 = .ok (.aload_n 0, 1) := by decide +kernel
theorem dX2_addMember_33 : decode cX2_addMember 33 = .ok (.dup, 1) := by decide +kernel
theorem dX2_addMember_34 : decode cX2_addMember 34 = .ok (.getfield 14, 3) := by decide +kernel
theorem dX2_addMember_37 : decode cX2_addMember 37 = .ok (.iconst 1, 1) := by decide +kernel
theorem dX2_addMember_38 : decode cX2_addMember 38 = .ok (.iadd, 1) := by decide +kernel
theorem dX2_addMember_39 : decode cX2_addMember 39 = .ok (.putfield 14, 3) := by decide +kernel
theorem dX2_addMember_42 : decode cX2_addMember 42 = .ok (.return_, 1) := by decide +kernel
theorem dX2_addSeconds_0 : decode cX2_addSeconds 0 = .ok (.aload_n 0, 1) := by decide +kernel
theorem dX2_addSeconds_1 : decode cX2_addSeconds 1 = .ok (.dup, 1) := by decide +kernel
theorem dX2_addSeconds_2 : decode cX2_addSeconds 2 = .ok (.getfield 36, 3) := by decide +kernel
theorem dX2_addSeconds_5 : decode cX2_addSeconds 5 = .ok (.lconst 1, 1) := by decide +kernel
theorem dX2_addSeconds_6 : decode cX2_addSeconds 6 = .ok (.bipush 6, 2) := by decide +kernel
theorem dX2_addSeconds_8 : decode cX2_addSeconds 8 = .ok (.iload_n 2, 1) := by decide +kernel
theorem dX2_addSeconds_9 : decode cX2_addSeconds 9 = .ok (.imul, 1) := by decide +kernel
theorem dX2_addSeconds_10 : decode cX2_addSeconds 10 = .ok (.iload_n 1, 1) := by decide +kernel
theorem dX2_addSeconds_11 : decode cX2_addSeconds 11 = .ok (.iadd, 1) := by decide +kernel
theorem dX2_addSeconds_12 : decode cX2_addSeconds 12 = .ok (.lshl, 1) := by decide +kernel
theorem dX2_addSeconds_13 : decode cX2_addSeconds 13 = .ok (.lor, 1) := by decide +kernel
theorem dX2_addSeconds_14 : decode cX2_addSeconds 14 = .ok (.putfield 36, 3) := by decide +kernel
theorem dX2_addSeconds_17 : decode cX2_addSeconds 17 = .ok (.aload_n 0, 1) := by decide +kernel
theorem dX2_addSeconds_18 : decode cX2_addSeconds 18 = .ok (.dup, 1) := by decide +kernel
theorem dX2_addSeconds_19 : decode cX2_addSeconds 19 = .ok (.getfield 33, 3) := by decide +kernel
theorem dX2_addSeconds_22 : decode cX2_addSeconds 22 = .ok (.iconst 1, 1) := by decide +kernel
theorem dX2_addSeconds_23 : decode cX2_addSeconds 23 = .ok (.iadd, 1) := by decide +kernel
theorem dX2_addSeconds_24 : decode cX2_addSeconds 24 = .ok (.putfield 33, 3) := by decide +kernel
theorem dX2_addSeconds_27 : decode cX2_addSeconds 27 = .ok (.return_, 1) := by decide +kernel
theorem dX2_has_0 : decode cX2_has 0 = .ok (.iload_n 1, 1) := by decide +kernel
theorem dX2_has_1 : decode cX2_has 1 = .ok (.ifCond .lt 15, 3) := by decide +kernel
theorem dX2_has_4 : decode cX2_has 4 = .ok (.iload_n 1, 1) := by decide +kernel
theorem dX2_has_5 : decode cX2_has 5 = .ok (.aload_n 0, 1) := by decide +kernel
theorem dX2_has_6 : decode cX2_has 6 = .ok (.getfield 14, 3) := by decide +kernel
theorem dX2_has_9 : decode cX2_has 9 = .ok (.if_icmp .ge 7, 3) := by decide +kernel
theorem dX2_has_12 : decode cX2_has 12 = .ok (.iconst 1, 1) := by decide +kernel
theorem dX2_has_13 : decode cX2_has 13 = .ok (.goto 4, 3) := by decide +kernel
theorem dX2_has_16 : decode cX2_has 16 = .ok (.iconst 0, 1) := by decide +kernel
theorem dX2_has_17 : decode cX2_has 17 = .ok (.ireturn, 1) := by decide +kernel
theorem dX2_everybody_0 : decode cX2_everybody 0 = .ok (.iconst 1, 1) := by decide +kernel
theorem dX2_everybody_1 : decode cX2_everybody 1 = .ok (.aload_n 0, 1) := by decide +kernel
theorem dX2_everybody_2 : decode cX2_everybody 2 = .ok (.getfield 14, 3) := by decide +kernel
theorem dX2_everybody_5 : decode cX2_everybody 5 = .ok (.ishl, 1) := by decide +kernel
theorem dX2_everybody_6 : decode cX2_everybody 6 = .ok (.iconst 1, 1) := by decide +kernel
theorem dX2_everybody_7 : decode cX2_everybody 7 = .ok (.isub, 1) := by decide +kernel
theorem dX2_everybody_8 : decode cX2_everybody 8 = .ok (.ireturn, 1) := by decide +kernel
theorem dX2_sideOf_0 : decode cX2_sideOf 0 = .ok (.aload_n 0, 1) := by decide +kernel
theorem dX2_sideOf_1 : decode cX2_sideOf 1 = .ok (.getfield 21, 3) := by decide +kernel
theorem dX2_sideOf_4 : decode cX2_sideOf 4 = .ok (.iload_n 1, 1) := by decide +kernel
theorem dX2_sideOf_5 : decode cX2_sideOf 5 = .ok (.ishr, 1) := by decide +kernel
theorem dX2_sideOf_6 : decode cX2_sideOf 6 = .ok (.iconst 1, 1) := by decide +kernel
theorem dX2_sideOf_7 : decode cX2_sideOf 7 = .ok (.iand, 1) := by decide +kernel
theorem dX2_sideOf_8 : decode cX2_sideOf 8 = .ok (.ireturn, 1) := by decide +kernel
theorem dX2_secondersOf_0 : decode cX2_secondersOf 0 = .ok (.iload_n 1, 1) := by decide +kernel
theorem dX2_secondersOf_1 : decode cX2_secondersOf 1 = .ok (.ifCond .ge 7, 3) := by decide +kernel
theorem dX2_secondersOf_4 : decode cX2_secondersOf 4 = .ok (.iconst 0, 1) := by decide +kernel
theorem dX2_secondersOf_5 : decode cX2_secondersOf 5 = .ok (.goto 16, 3) := by decide +kernel
theorem dX2_secondersOf_8 : decode cX2_secondersOf 8 = .ok (.aload_n 0, 1) := by decide +kernel
theorem dX2_secondersOf_9 : decode cX2_secondersOf 9 = .ok (.getfield 36, 3) := by decide +kernel
theorem dX2_secondersOf_12 : decode cX2_secondersOf 12 = .ok (.bipush 6, 2) := by decide +kernel
theorem dX2_secondersOf_14 : decode cX2_secondersOf 14 = .ok (.iload_n 1, 1) := by decide +kernel
theorem dX2_secondersOf_15 : decode cX2_secondersOf 15 = .ok (.imul, 1) := by decide +kernel
theorem dX2_secondersOf_16 : decode cX2_secondersOf 16 = .ok (.lshr, 1) := by decide +kernel
theorem dX2_secondersOf_17 : decode cX2_secondersOf 17 = .ok (.l2i, 1) := by decide +kernel
theorem dX2_secondersOf_18 : decode cX2_secondersOf 18 = .ok (.bipush 63, 2) := by decide +kernel
theorem dX2_secondersOf_20 : decode cX2_secondersOf 20 = .ok (.iand, 1) := by decide +kernel
theorem dX2_secondersOf_21 : decode cX2_secondersOf 21 = .ok (.ireturn, 1) := by decide +kernel
theorem dX2_warmthOf_0 : decode cX2_warmthOf 0 = .ok (.iload_n 1, 1) := by decide +kernel
theorem dX2_warmthOf_1 : decode cX2_warmthOf 1 = .ok (.iconst 5, 1) := by decide +kernel
theorem dX2_warmthOf_2 : decode cX2_warmthOf 2 = .ok (.iload_n 0, 1) := by decide +kernel
theorem dX2_warmthOf_3 : decode cX2_warmthOf 3 = .ok (.imul, 1) := by decide +kernel
theorem dX2_warmthOf_4 : decode cX2_warmthOf 4 = .ok (.ishr, 1) := by decide +kernel
theorem dX2_warmthOf_5 : decode cX2_warmthOf 5 = .ok (.bipush 31, 2) := by decide +kernel
theorem dX2_warmthOf_7 : decode cX2_warmthOf 7 = .ok (.iand, 1) := by decide +kernel
theorem dX2_warmthOf_8 : decode cX2_warmthOf 8 = .ok (.ireturn, 1) := by decide +kernel
set_option maxRecDepth 20000 in
theorem ggX2_isFrozen_X2_warmthOf : GoodIn wsX2_isFrozen wsX2_warmthOf := goodIn_r _ [4] (by decide +kernel) (by decide +kernel)
set_option maxRecDepth 20000 in
theorem gX2_isFrozen_X2_warmthOf : GoodIn wsX2_isFrozen (va_wsS RX2 40 yX2_warmthOf wsX2_warmthOf) := goodIn_app (goodIn_of _ (by decide +kernel)) ggX2_isFrozen_X2_warmthOf
theorem dX2_isFrozen_0 : decode cX2_isFrozen 0 = .ok (.iload_n 0, 1) := by decide +kernel
theorem dX2_isFrozen_1 : decode cX2_isFrozen 1 = .ok (.iload_n 1, 1) := by decide +kernel
theorem dX2_isFrozen_2 : decode cX2_isFrozen 2 = .ok (.invokestatic 40, 3) := by decide +kernel
theorem dX2_isFrozen_5 : decode cX2_isFrozen 5 = .ok (.ifCond .ne 7, 3) := by decide +kernel
theorem dX2_isFrozen_8 : decode cX2_isFrozen 8 = .ok (.iconst 1, 1) := by decide +kernel
theorem dX2_isFrozen_9 : decode cX2_isFrozen 9 = .ok (.goto 4, 3) := by decide +kernel
theorem dX2_isFrozen_12 : decode cX2_isFrozen 12 = .ok (.iconst 0, 1) := by decide +kernel
theorem dX2_isFrozen_13 : decode cX2_isFrozen 13 = .ok (.ireturn, 1) := by decide +kernel
set_option maxRecDepth 20000 in
theorem ggX2_frozen_X2_isFrozen : GoodIn wsX2_frozen wsX2_isFrozen := goodIn_r _ [5, 6, 7, 4, 8] (by decide +kernel) (by decide +kernel)
set_option maxRecDepth 20000 in
theorem gX2_frozen_X2_isFrozen : GoodIn wsX2_frozen (va_wsS RX2 44 yX2_isFrozen wsX2_isFrozen) := goodIn_app (goodIn_of _ (by decide +kernel)) ggX2_frozen_X2_isFrozen
theorem dX2_frozen_0 : decode cX2_frozen 0 = .ok (.iconst 0, 1) := by decide +kernel
theorem dX2_frozen_1 : decode cX2_frozen 1 = .ok (.istore_n 2, 1) := by decide +kernel
theorem dX2_frozen_2 : decode cX2_frozen 2 = .ok (.iconst 0, 1) := by decide +kernel
theorem dX2_frozen_3 : decode cX2_frozen 3 = .ok (.istore_n 3, 1) := by decide +kernel
theorem dX2_frozen_4 : decode cX2_frozen 4 = .ok (.iload_n 3, 1) := by decide +kernel
theorem dX2_frozen_5 : decode cX2_frozen 5 = .ok (.aload_n 0, 1) := by decide +kernel
theorem dX2_frozen_6 : decode cX2_frozen 6 = .ok (.getfield 14, 3) := by decide +kernel
theorem dX2_frozen_9 : decode cX2_frozen 9 = .ok (.if_icmp .ge 23, 3) := by decide +kernel
theorem dX2_frozen_12 : decode cX2_frozen 12 = .ok (.iload_n 3, 1) := by decide +kernel
theorem dX2_frozen_13 : decode cX2_frozen 13 = .ok (.iload_n 1, 1) := by decide +kernel
theorem dX2_frozen_14 : decode cX2_frozen 14 = .ok (.invokestatic 44, 3) := by decide +kernel
theorem dX2_frozen_17 : decode cX2_frozen 17 = .ok (.ifCond .eq 9, 3) := by decide +kernel
theorem dX2_frozen_20 : decode cX2_frozen 20 = .ok (.iload_n 2, 1) := by decide +kernel
theorem dX2_frozen_21 : decode cX2_frozen 21 = .ok (.iconst 1, 1) := by decide +kernel
theorem dX2_frozen_22 : decode cX2_frozen 22 = .ok (.iload_n 3, 1) := by decide +kernel
theorem dX2_frozen_23 : decode cX2_frozen 23 = .ok (.ishl, 1) := by decide +kernel
theorem dX2_frozen_24 : decode cX2_frozen 24 = .ok (.ior, 1) := by decide +kernel
theorem dX2_frozen_25 : decode cX2_frozen 25 = .ok (.istore_n 2, 1) := by decide +kernel
theorem dX2_frozen_26 : decode cX2_frozen 26 = .ok (.iinc 3 1, 3) := by decide +kernel
theorem dX2_frozen_29 : decode cX2_frozen 29 = .ok (.goto (-25), 3) := by decide +kernel
theorem dX2_frozen_32 : decode cX2_frozen 32 = .ok (.iload_n 2, 1) := by decide +kernel
theorem dX2_frozen_33 : decode cX2_frozen 33 = .ok (.ireturn, 1) := by decide +kernel
set_option maxRecDepth 20000 in
theorem ggX2_notFrozen_X2_frozen : GoodIn wsX2_notFrozen wsX2_frozen := goodIn_r _ [6, 1, 7, 8, 5, 9, 10, 11, 12, 20, 21, 22, 23, 24, 25, 26, 27] (by decide +kernel) (by decide +kernel)
set_option maxRecDepth 20000 in
theorem gX2_notFrozen_X2_frozen : GoodIn wsX2_notFrozen (wsV RX2 48 RX2 yX2_frozen wsX2_frozen) := goodIn_app (goodIn_of _ (by decide +kernel)) ggX2_notFrozen_X2_frozen
set_option maxRecDepth 20000 in
theorem ggX2_notFrozen_J6_bitCount_0f7a4 : GoodIn wsX2_notFrozen wsJ6_bitCount_0f7a4 := goodIn_r _ [16, 17, 18, 19] (by decide +kernel) (by decide +kernel)
set_option maxRecDepth 20000 in
theorem gX2_notFrozen_J6_bitCount_0f7a4 : GoodIn wsX2_notFrozen (va_wsS RX2 52 yJ6_bitCount_0f7a4 wsJ6_bitCount_0f7a4) := goodIn_app (goodIn_of _ (by decide +kernel)) ggX2_notFrozen_J6_bitCount_0f7a4
theorem dX2_notFrozen_0 : decode cX2_notFrozen 0 = .ok (.aload_n 0, 1) := by decide +kernel
theorem dX2_notFrozen_1 : decode cX2_notFrozen 1 = .ok (.getfield 14, 3) := by decide +kernel
theorem dX2_notFrozen_4 : decode cX2_notFrozen 4 = .ok (.aload_n 0, 1) := by decide +kernel
theorem dX2_notFrozen_5 : decode cX2_notFrozen 5 = .ok (.iload_n 1, 1) := by decide +kernel
theorem dX2_notFrozen_6 : decode cX2_notFrozen 6 = .ok (.invokevirtual 48, 3) := by decide +kernel
theorem dX2_notFrozen_9 : decode cX2_notFrozen 9 = .ok (.invokestatic 52, 3) := by decide +kernel
theorem dX2_notFrozen_12 : decode cX2_notFrozen 12 = .ok (.isub, 1) := by decide +kernel
theorem dX2_notFrozen_13 : decode cX2_notFrozen 13 = .ok (.ireturn, 1) := by decide +kernel
set_option maxRecDepth 20000 in
theorem ggX2_isCarried_X2_everybody : GoodIn wsX2_isCarried wsX2_everybody := goodIn_r _ [6, 7, 25, 26, 27, 28, 29, 30, 31, 32] (by decide +kernel) (by decide +kernel)
set_option maxRecDepth 20000 in
theorem gX2_isCarried_X2_everybody : GoodIn wsX2_isCarried (wsV RX2 57 RX2 yX2_everybody wsX2_everybody) := goodIn_app (goodIn_of _ (by decide +kernel)) ggX2_isCarried_X2_everybody
set_option maxRecDepth 20000 in
theorem ggX2_isCarried_X2_frozen : GoodIn wsX2_isCarried wsX2_frozen := goodIn_r _ [11, 7, 12, 13, 5, 14, 15, 16, 17, 25, 26, 27, 28, 29, 30, 31, 32] (by decide +kernel) (by decide +kernel)
set_option maxRecDepth 20000 in
theorem gX2_isCarried_X2_frozen : GoodIn wsX2_isCarried (wsV RX2 48 RX2 yX2_frozen wsX2_frozen) := goodIn_app (goodIn_of _ (by decide +kernel)) ggX2_isCarried_X2_frozen
set_option maxRecDepth 20000 in
theorem ggX2_isCarried_J6_bitCount_0f7a4 : GoodIn wsX2_isCarried wsJ6_bitCount_0f7a4 := goodIn_r _ [21, 22, 23, 24] (by decide +kernel) (by decide +kernel)
set_option maxRecDepth 20000 in
theorem gX2_isCarried_J6_bitCount_0f7a4 : GoodIn wsX2_isCarried (va_wsS RX2 52 yJ6_bitCount_0f7a4 wsJ6_bitCount_0f7a4) := goodIn_app (goodIn_of _ (by decide +kernel)) ggX2_isCarried_J6_bitCount_0f7a4
theorem dX2_isCarried_0 : decode cX2_isCarried 0 = .ok (.aload_n 0, 1) := by decide +kernel
theorem dX2_isCarried_1 : decode cX2_isCarried 1 = .ok (.invokevirtual 57, 3) := by decide +kernel
theorem dX2_isCarried_4 : decode cX2_isCarried 4 = .ok (.aload_n 0, 1) := by decide +kernel
theorem dX2_isCarried_5 : decode cX2_isCarried 5 = .ok (.iload_n 1, 1) := by decide +kernel
theorem dX2_isCarried_6 : decode cX2_isCarried 6 = .ok (.invokevirtual 48, 3) := by decide +kernel
theorem dX2_isCarried_9 : decode cX2_isCarried 9 = .ok (.iconst (-1), 1) := by decide +kernel
theorem dX2_isCarried_10 : decode cX2_isCarried 10 = .ok (.ixor, 1) := by decide +kernel
theorem dX2_isCarried_11 : decode cX2_isCarried 11 = .ok (.iand, 1) := by decide +kernel
theorem dX2_isCarried_12 : decode cX2_isCarried 12 = .ok (.istore_n 2, 1) := by decide +kernel
theorem dX2_isCarried_13 : decode cX2_isCarried 13 = .ok (.iload_n 2, 1) := by decide +kernel
theorem dX2_isCarried_14 : decode cX2_isCarried 14 = .ok (.aload_n 0, 1) := by decide +kernel
theorem dX2_isCarried_15 : decode cX2_isCarried 15 = .ok (.getfield 21, 3) := by decide +kernel
theorem dX2_isCarried_18 : decode cX2_isCarried 18 = .ok (.iand, 1) := by decide +kernel
theorem dX2_isCarried_19 : decode cX2_isCarried 19 = .ok (.invokestatic 52, 3) := by decide +kernel
theorem dX2_isCarried_22 : decode cX2_isCarried 22 = .ok (.iload_n 2, 1) := by decide +kernel
theorem dX2_isCarried_23 : decode cX2_isCarried 23 = .ok (.aload_n 0, 1) := by decide +kernel
theorem dX2_isCarried_24 : decode cX2_isCarried 24 = .ok (.getfield 21, 3) := by decide +kernel
theorem dX2_isCarried_27 : decode cX2_isCarried 27 = .ok (.iconst (-1), 1) := by decide +kernel
theorem dX2_isCarried_28 : decode cX2_isCarried 28 = .ok (.ixor, 1) := by decide +kernel
theorem dX2_isCarried_29 : decode cX2_isCarried 29 = .ok (.iand, 1) := by decide +kernel
theorem dX2_isCarried_30 : decode cX2_isCarried 30 = .ok (.invokestatic 52, 3) := by decide +kernel
theorem dX2_isCarried_33 : decode cX2_isCarried 33 = .ok (.if_icmp .le 7, 3) := by decide +kernel
theorem dX2_isCarried_36 : decode cX2_isCarried 36 = .ok (.iconst 1, 1) := by decide +kernel
theorem dX2_isCarried_37 : decode cX2_isCarried 37 = .ok (.goto 4, 3) := by decide +kernel
theorem dX2_isCarried_40 : decode cX2_isCarried 40 = .ok (.iconst 0, 1) := by decide +kernel
theorem dX2_isCarried_41 : decode cX2_isCarried 41 = .ok (.ireturn, 1) := by decide +kernel
set_option maxRecDepth 20000 in
theorem ggX2_mightBeCarried_X2_sideOf : GoodIn wsX2_mightBeCarried wsX2_sideOf := goodIn_r _ [7, 8, 15, 16, 17, 18, 19, 20, 21, 22] (by decide +kernel) (by decide +kernel)
set_option maxRecDepth 20000 in
theorem gX2_mightBeCarried_X2_sideOf : GoodIn wsX2_mightBeCarried (wsV RX2 61 RX2 yX2_sideOf wsX2_sideOf) := goodIn_app (goodIn_of _ (by decide +kernel)) ggX2_mightBeCarried_X2_sideOf
set_option maxRecDepth 20000 in
theorem ggX2_mightBeCarried_X2_isFrozen : GoodIn wsX2_mightBeCarried wsX2_isFrozen := goodIn_r _ [11, 12, 13, 6, 14] (by decide +kernel) (by decide +kernel)
set_option maxRecDepth 20000 in
theorem gX2_mightBeCarried_X2_isFrozen : GoodIn wsX2_mightBeCarried (va_wsS RX2 44 yX2_isFrozen wsX2_isFrozen) := goodIn_app (goodIn_of _ (by decide +kernel)) ggX2_mightBeCarried_X2_isFrozen
set_option maxRecDepth 20000 in
theorem ggX2_mightBeCarried_X2_warmthOf : GoodIn wsX2_mightBeCarried wsX2_warmthOf := goodIn_r _ [14] (by decide +kernel) (by decide +kernel)
set_option maxRecDepth 20000 in
theorem gX2_mightBeCarried_X2_warmthOf : GoodIn wsX2_mightBeCarried (va_wsS RX2 40 yX2_warmthOf wsX2_warmthOf) := goodIn_app (goodIn_of _ (by decide +kernel)) ggX2_mightBeCarried_X2_warmthOf
theorem dX2_mightBeCarried_0 : decode cX2_mightBeCarried 0 = .ok (.iconst 0, 1) := by decide +kernel
theorem dX2_mightBeCarried_1 : decode cX2_mightBeCarried 1 = .ok (.istore_n 3, 1) := by decide +kernel
theorem dX2_mightBeCarried_2 : decode cX2_mightBeCarried 2 = .ok (.iconst 0, 1) := by decide +kernel
theorem dX2_mightBeCarried_3 : decode cX2_mightBeCarried 3 = .ok (.istore 4, 2) := by decide +kernel
theorem dX2_mightBeCarried_5 : decode cX2_mightBeCarried 5 = .ok (.iload 4, 2) := by decide +kernel
theorem dX2_mightBeCarried_7 : decode cX2_mightBeCarried 7 = .ok (.aload_n 0, 1) := by decide +kernel
theorem dX2_mightBeCarried_8 : decode cX2_mightBeCarried 8 = .ok (.getfield 14, 3) := by decide +kernel
theorem dX2_mightBeCarried_11 : decode cX2_mightBeCarried 11 = .ok (.if_icmp .ge 57, 3) := by decide +kernel
theorem dX2_mightBeCarried_14 : decode cX2_mightBeCarried 14 = .ok (.aload_n 0, 1) := by decide +kernel
theorem dX2_mightBeCarried_15 : decode cX2_mightBeCarried 15 = .ok (.iload 4, 2) := by decide +kernel
theorem dX2_mightBeCarried_17 : decode cX2_mightBeCarried 17 = .ok (.invokevirtual 61, 3) := by decide +kernel
theorem dX2_mightBeCarried_20 : decode cX2_mightBeCarried 20 = .ok (.iconst 1, 1) := by decide +kernel
theorem dX2_mightBeCarried_21 : decode cX2_mightBeCarried 21 = .ok (.if_icmp .ne 23, 3) := by decide +kernel
theorem dX2_mightBeCarried_24 : decode cX2_mightBeCarried 24 = .ok (.iload_n 3, 1) := by decide +kernel
theorem dX2_mightBeCarried_25 : decode cX2_mightBeCarried 25 = .ok (.iload 4, 2) := by decide +kernel
theorem dX2_mightBeCarried_27 : decode cX2_mightBeCarried 27 = .ok (.iload_n 1, 1) := by decide +kernel
theorem dX2_mightBeCarried_28 : decode cX2_mightBeCarried 28 = .ok (.invokestatic 44, 3) := by decide +kernel
theorem dX2_mightBeCarried_31 : decode cX2_mightBeCarried 31 = .ok (.ifCond .eq 7, 3) := by decide +kernel
theorem dX2_mightBeCarried_34 : decode cX2_mightBeCarried 34 = .ok (.iconst 0, 1) := by decide +kernel
theorem dX2_mightBeCarried_35 : decode cX2_mightBeCarried 35 = .ok (.goto 4, 3) := by decide +kernel
theorem dX2_mightBeCarried_38 : decode cX2_mightBeCarried 38 = .ok (.iconst 1, 1) := by decide +kernel
theorem dX2_mightBeCarried_39 : decode cX2_mightBeCarried 39 = .ok (.iadd, 1) := by decide +kernel
theorem dX2_mightBeCarried_40 : decode cX2_mightBeCarried 40 = .ok (.istore_n 3, 1) := by decide +kernel
theorem dX2_mightBeCarried_41 : decode cX2_mightBeCarried 41 = .ok (.goto 21, 3) := by decide +kernel
theorem dX2_mightBeCarried_44 : decode cX2_mightBeCarried 44 = .ok (.iload 4, 2) := by decide +kernel
theorem dX2_mightBeCarried_46 : decode cX2_mightBeCarried 46 = .ok (.iload_n 1, 1) := by decide +kernel
theorem dX2_mightBeCarried_47 : decode cX2_mightBeCarried 47 = .ok (.invokestatic 40, 3) := by decide +kernel
theorem dX2_mightBeCarried_50 : decode cX2_mightBeCarried 50 = .ok (.aload_n 0, 1) := by decide +kernel
theorem dX2_mightBeCarried_51 : decode cX2_mightBeCarried 51 = .ok (.getfield 24, 3) := by decide +kernel
theorem dX2_mightBeCarried_54 : decode cX2_mightBeCarried 54 = .ok (.iload_n 2, 1) := by decide +kernel
theorem dX2_mightBeCarried_55 : decode cX2_mightBeCarried 55 = .ok (.imul, 1) := by decide +kernel
theorem dX2_mightBeCarried_56 : decode cX2_mightBeCarried 56 = .ok (.if_icmp .le 6, 3) := by decide +kernel
theorem dX2_mightBeCarried_59 : decode cX2_mightBeCarried 59 = .ok (.iinc 3 (-1), 3) := by decide +kernel
theorem dX2_mightBeCarried_62 : decode cX2_mightBeCarried 62 = .ok (.iinc 4 1, 3) := by decide +kernel
theorem dX2_mightBeCarried_65 : decode cX2_mightBeCarried 65 = .ok (.goto (-60), 3) := by decide +kernel
theorem dX2_mightBeCarried_68 : decode cX2_mightBeCarried 68 = .ok (.iload_n 3, 1) := by decide +kernel
theorem dX2_mightBeCarried_69 : decode cX2_mightBeCarried 69 = .ok (.ifCond .le 7, 3) := by decide +kernel
theorem dX2_mightBeCarried_72 : decode cX2_mightBeCarried 72 = .ok (.iconst 1, 1) := by decide +kernel
theorem dX2_mightBeCarried_73 : decode cX2_mightBeCarried 73 = .ok (.goto 4, 3) := by decide +kernel
theorem dX2_mightBeCarried_76 : decode cX2_mightBeCarried 76 = .ok (.iconst 0, 1) := by decide +kernel
theorem dX2_mightBeCarried_77 : decode cX2_mightBeCarried 77 = .ok (.ireturn, 1) := by decide +kernel
set_option maxRecDepth 20000 in
theorem ggX2_afterMinute_X2_secondersOf : GoodIn wsX2_afterMinute wsX2_secondersOf := goodIn_r _ [14, 15, 19, 20, 21, 22, 23, 24, 25, 26] (by decide +kernel) (by decide +kernel)
set_option maxRecDepth 20000 in
theorem gX2_afterMinute_X2_secondersOf : GoodIn wsX2_afterMinute (wsV RX2 64 RX2 yX2_secondersOf wsX2_secondersOf) := goodIn_app (goodIn_of _ (by decide +kernel)) ggX2_afterMinute_X2_secondersOf
set_option maxRecDepth 20000 in
theorem ggX2_afterMinute_X2_warmthOf : GoodIn wsX2_afterMinute wsX2_warmthOf := goodIn_r _ [18] (by decide +kernel) (by decide +kernel)
set_option maxRecDepth 20000 in
theorem gX2_afterMinute_X2_warmthOf : GoodIn wsX2_afterMinute (va_wsS RX2 40 yX2_warmthOf wsX2_warmthOf) := goodIn_app (goodIn_of _ (by decide +kernel)) ggX2_afterMinute_X2_warmthOf
theorem dX2_afterMinute_0 : decode cX2_afterMinute 0 = .ok (.aload_n 0, 1) := by decide +kernel
theorem dX2_afterMinute_1 : decode cX2_afterMinute 1 = .ok (.iload_n 2, 1) := by decide +kernel
theorem dX2_afterMinute_2 : decode cX2_afterMinute 2 = .ok (.invokevirtual 64, 3) := by decide +kernel
theorem dX2_afterMinute_5 : decode cX2_afterMinute 5 = .ok (.istore 4, 2) := by decide +kernel
theorem dX2_afterMinute_7 : decode cX2_afterMinute 7 = .ok (.iconst 0, 1) := by decide +kernel
theorem dX2_afterMinute_8 : decode cX2_afterMinute 8 = .ok (.istore 5, 2) := by decide +kernel
theorem dX2_afterMinute_10 : decode cX2_afterMinute 10 = .ok (.iconst 0, 1) := by decide +kernel
theorem dX2_afterMinute_11 : decode cX2_afterMinute 11 = .ok (.istore 6, 2) := by decide +kernel
theorem dX2_afterMinute_13 : decode cX2_afterMinute 13 = .ok (.iload 6, 2) := by decide +kernel
theorem dX2_afterMinute_15 : decode cX2_afterMinute 15 = .ok (.aload_n 0, 1) := by decide +kernel
theorem dX2_afterMinute_16 : decode cX2_afterMinute 16 = .ok (.getfield 14, 3) := by decide +kernel
theorem dX2_afterMinute_19 : decode cX2_afterMinute 19 = .ok (.if_icmp .ge 77, 3) := by decide +kernel
theorem dX2_afterMinute_22 : decode cX2_afterMinute 22 = .ok (.iload 6, 2) := by decide +kernel
theorem dX2_afterMinute_24 : decode cX2_afterMinute 24 = .ok (.iload_n 1, 1) := by decide +kernel
theorem dX2_afterMinute_25 : decode cX2_afterMinute 25 = .ok (.invokestatic 40, 3) := by decide +kernel
theorem dX2_afterMinute_28 : decode cX2_afterMinute 28 = .ok (.istore 7, 2) := by decide +kernel
theorem dX2_afterMinute_30 : decode cX2_afterMinute 30 = .ok (.iload 6, 2) := by decide +kernel
theorem dX2_afterMinute_32 : decode cX2_afterMinute 32 = .ok (.iload_n 2, 1) := by decide +kernel
theorem dX2_afterMinute_33 : decode cX2_afterMinute 33 = .ok (.if_icmp .ne 22, 3) := by decide +kernel
theorem dX2_afterMinute_36 : decode cX2_afterMinute 36 = .ok (.iload 7, 2) := by decide +kernel
theorem dX2_afterMinute_38 : decode cX2_afterMinute 38 = .ok (.ifCond .le 17, 3) := by decide +kernel
theorem dX2_afterMinute_41 : decode cX2_afterMinute 41 = .ok (.bipush 20, 2) := by decide +kernel
theorem dX2_afterMinute_43 : decode cX2_afterMinute 43 = .ok (.iload 7, 2) := by decide +kernel
theorem dX2_afterMinute_45 : decode cX2_afterMinute 45 = .ok (.iload_n 3, 1) := by decide +kernel
theorem dX2_afterMinute_46 : decode cX2_afterMinute 46 = .ok (.iadd, 1) := by decide +kernel
theorem dX2_afterMinute_47 : decode cX2_afterMinute 47 = .ok (.invokestatic 67, 3) := by decide +kernel
theorem dX2_afterMinute_50 : decode cX2_afterMinute 50 = .ok (.istore 7, 2) := by decide +kernel
theorem dX2_afterMinute_52 : decode cX2_afterMinute 52 = .ok (.goto 26, 3) := by decide +kernel
theorem dX2_afterMinute_55 : decode cX2_afterMinute 55 = .ok (.iload 4, 2) := by decide +kernel
theorem dX2_afterMinute_57 : decode cX2_afterMinute 57 = .ok (.iload 6, 2) := by decide +kernel
theorem dX2_afterMinute_59 : decode cX2_afterMinute 59 = .ok (.ishr, 1) := by decide +kernel
theorem dX2_afterMinute_60 : decode cX2_afterMinute 60 = .ok (.iconst 1, 1) := by decide +kernel
theorem dX2_afterMinute_61 : decode cX2_afterMinute 61 = .ok (.iand, 1) := by decide +kernel
theorem dX2_afterMinute_62 : decode cX2_afterMinute 62 = .ok (.ifCond .ne 16, 3) := by decide +kernel
theorem dX2_afterMinute_65 : decode cX2_afterMinute 65 = .ok (.iconst 0, 1) := by decide +kernel
theorem dX2_afterMinute_66 : decode cX2_afterMinute 66 = .ok (.iload 7, 2) := by decide +kernel
theorem dX2_afterMinute_68 : decode cX2_afterMinute 68 = .ok (.aload_n 0, 1) := by decide +kernel
theorem dX2_afterMinute_69 : decode cX2_afterMinute 69 = .ok (.getfield 24, 3) := by decide +kernel
theorem dX2_afterMinute_72 : decode cX2_afterMinute 72 = .ok (.isub, 1) := by decide +kernel
theorem dX2_afterMinute_73 : decode cX2_afterMinute 73 = .ok (.invokestatic 72, 3) := by decide +kernel
theorem dX2_afterMinute_76 : decode cX2_afterMinute 76 = .ok (.istore 7, 2) := by decide +kernel
theorem dX2_afterMinute_78 : decode cX2_afterMinute 78 = .ok (.iload 5, 2) := by decide +kernel
theorem dX2_afterMinute_80 : decode cX2_afterMinute 80 = .ok (.iload 7, 2) := by decide +kernel
theorem dX2_afterMinute_82 : decode cX2_afterMinute 82 = .ok (.iconst 5, 1) := by decide +kernel
theorem dX2_afterMinute_83 : decode cX2_afterMinute 83 = .ok (.iload 6, 2) := by decide +kernel
theorem dX2_afterMinute_85 : decode cX2_afterMinute 85 = .ok (.imul, 1) := by decide +kernel
theorem dX2_afterMinute_86 : decode cX2_afterMinute 86 = .ok (.ishl, 1) := by decide +kernel
theorem dX2_afterMinute_87 : decode cX2_afterMinute 87 = .ok (.ior, 1) := by decide +kernel
theorem dX2_afterMinute_88 : decode cX2_afterMinute 88 = .ok (.istore 5, 2) := by decide +kernel
theorem dX2_afterMinute_90 : decode cX2_afterMinute 90 = .ok (.iinc 6 1, 3) := by decide +kernel
theorem dX2_afterMinute_93 : decode cX2_afterMinute 93 = .ok (.goto (-80), 3) := by decide +kernel
theorem dX2_afterMinute_96 : decode cX2_afterMinute 96 = .ok (.iload 5, 2) := by decide +kernel
theorem dX2_afterMinute_98 : decode cX2_afterMinute 98 = .ok (.ireturn, 1) := by decide +kernel
