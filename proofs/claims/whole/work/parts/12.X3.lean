set_option maxRecDepth 20000 in
theorem ggX3_init_X1_init : GoodIn wsX3_init wsX1_init := goodIn_r _ [9, 10, 2, 3, 11, 12, 15, 16, 17, 18, 19] (by decide +kernel) (by decide +kernel)
set_option maxRecDepth 20000 in
theorem gX3_init_X1_init_n17 : GoodIn wsX3_init (wsX1_init) := ggX3_init_X1_init
theorem dX3_init_0 : decode cX3_init 0 = .ok (.aload_n 0, 1) := by decide +kernel
theorem dX3_init_1 : decode cX3_init 1 = .ok (.invokespecial 3, 3) := by decide +kernel
theorem dX3_init_4 : decode cX3_init 4 = .ok (.aload_n 0, 1) := by decide +kernel
theorem dX3_init_5 : decode cX3_init 5 = .ok (.bipush 10, 2) := by decide +kernel
theorem dX3_init_7 : decode cX3_init 7 = .ok (.anewarray 9, 3) := by decide +kernel
theorem dX3_init_10 : decode cX3_init 10 = .ok (.putfield 11, 3) := by decide +kernel
theorem dX3_init_13 : decode cX3_init 13 = .ok (.iconst 0, 1) := by decide +kernel
theorem dX3_init_14 : decode cX3_init 14 = .ok (.istore_n 1, 1) := by decide +kernel
theorem dX3_init_15 : decode cX3_init 15 = .ok (.iload_n 1, 1) := by decide +kernel
theorem dX3_init_16 : decode cX3_init 16 = .ok (.aload_n 0, 1) := by decide +kernel
theorem dX3_init_17 : decode cX3_init 17 = .ok (.getfield 11, 3) := by decide +kernel
theorem dX3_init_20 : decode cX3_init 20 = .ok (.arraylength, 1) := by decide +kernel
theorem dX3_init_21 : decode cX3_init 21 = .ok (.if_icmp .ge 22, 3) := by decide +kernel
theorem dX3_init_24 : decode cX3_init 24 = .ok (.aload_n 0, 1) := by decide +kernel
theorem dX3_init_25 : decode cX3_init 25 = .ok (.getfield 11, 3) := by decide +kernel
theorem dX3_init_28 : decode cX3_init 28 = .ok (.iload_n 1, 1) := by decide +kernel
theorem dX3_init_29 : decode cX3_init 29 = .ok (.new 9, 3) := by decide +kernel
theorem dX3_init_32 : decode cX3_init 32 = .ok (.dup, 1) := by decide +kernel
theorem dX3_init_33 : decode cX3_init 33 = .ok (.invokespecial 17, 3) := by decide +kernel
theorem dX3_init_36 : decode cX3_init 36 = .ok (.aastore, 1) := by decide +kernel
theorem dX3_init_37 : decode cX3_init 37 = .ok (.iinc 1 1, 3) := by decide +kernel
theorem dX3_init_40 : decode cX3_init 40 = .ok (.goto (-25), 3) := by decide +kernel
theorem dX3_init_43 : decode cX3_init 43 = .ok (.return_, 1) := by decide +kernel
set_option maxRecDepth 20000 in
theorem ggX3_add_X3_loseOldest : GoodIn wsX3_add wsX3_loseOldest := goodIn_r _ [7, 2, 1, 8, 9, 10, 11, 12, 13, 14, 15, 16, 17, 18, 19, 20, 21, 22, 23, 24] (by decide +kernel) (by decide +kernel)
set_option maxRecDepth 20000 in
theorem gX3_add_X3_loseOldest : GoodIn wsX3_add (wsV RX3 22 RX3 yX3_loseOldest wsX3_loseOldest) := goodIn_app (goodIn_of _ (by decide +kernel)) ggX3_add_X3_loseOldest
set_option maxRecDepth 20000 in
theorem ggX3_add_X1_become : GoodIn wsX3_add wsX1_become := goodIn_r _ [12, 13, 14, 15, 16, 17, 20, 21, 22, 23, 24] (by decide +kernel) (by decide +kernel)
set_option maxRecDepth 20000 in
theorem gX3_add_X1_become : GoodIn wsX3_add (wsV RX3 25 RX1 yX1_become wsX1_become) := goodIn_app (goodIn_of _ (by decide +kernel)) ggX3_add_X1_become
theorem dX3_add_0 : decode cX3_add 0 = .ok (.aload_n 0, 1) := by decide +kernel
theorem dX3_add_1 : decode cX3_add 1 = .ok (.getfield 18, 3) := by decide +kernel
theorem dX3_add_4 : decode cX3_add 4 = .ok (.aload_n 0, 1) := by decide +kernel
theorem dX3_add_5 : decode cX3_add 5 = .ok (.getfield 11, 3) := by decide +kernel
theorem dX3_add_8 : decode cX3_add 8 = .ok (.arraylength, 1) := by decide +kernel
theorem dX3_add_9 : decode cX3_add 9 = .ok (.if_icmp .lt 7, 3) := by decide +kernel
theorem dX3_add_12 : decode cX3_add 12 = .ok (.aload_n 0, 1) := by decide +kernel
theorem dX3_add_13 : decode cX3_add 13 = .ok (.invokevirtual 22, 3) := by decide +kernel
theorem dX3_add_16 : decode cX3_add 16 = .ok (.aload_n 0, 1) := by decide +kernel
theorem dX3_add_17 : decode cX3_add 17 = .ok (.getfield 18, 3) := by decide +kernel
theorem dX3_add_20 : decode cX3_add 20 = .ok (.ifCond .lt 38, 3) := by decide +kernel
theorem dX3_add_23 : decode cX3_add 23 = .ok (.aload_n 0, 1) := by decide +kernel
theorem dX3_add_24 : decode cX3_add 24 = .ok (.getfield 18, 3) := by decide +kernel
theorem dX3_add_27 : decode cX3_add 27 = .ok (.aload_n 0, 1) := by decide +kernel
theorem dX3_add_28 : decode cX3_add 28 = .ok (.getfield 11, 3) := by decide +kernel
theorem dX3_add_31 : decode cX3_add 31 = .ok (.arraylength, 1) := by decide +kernel
theorem dX3_add_32 : decode cX3_add 32 = .ok (.if_icmp .ge 26, 3) := by decide +kernel
theorem dX3_add_35 : decode cX3_add 35 = .ok (.aload_n 0, 1) := by decide +kernel
theorem dX3_add_36 : decode cX3_add 36 = .ok (.getfield 11, 3) := by decide +kernel
theorem dX3_add_39 : decode cX3_add 39 = .ok (.aload_n 0, 1) := by decide +kernel
theorem dX3_add_40 : decode cX3_add 40 = .ok (.getfield 18, 3) := by decide +kernel
theorem dX3_add_43 : decode cX3_add 43 = .ok (.aaload, 1) := by decide +kernel
theorem dX3_add_44 : decode cX3_add 44 = .ok (.aload_n 1, 1) := by decide +kernel
theorem dX3_add_45 : decode cX3_add 45 = .ok (.invokevirtual 25, 3) := by decide +kernel
theorem dX3_add_48 : decode cX3_add 48 = .ok (.aload_n 0, 1) := by decide +kernel
theorem dX3_add_49 : decode cX3_add 49 = .ok (.dup, 1) := by decide +kernel
theorem dX3_add_50 : decode cX3_add 50 = .ok (.getfield 18, 3) := by decide +kernel
theorem dX3_add_53 : decode cX3_add 53 = .ok (.iconst 1, 1) := by decide +kernel
theorem dX3_add_54 : decode cX3_add 54 = .ok (.iadd, 1) := by decide +kernel
theorem dX3_add_55 : decode cX3_add 55 = .ok (.putfield 18, 3) := by decide +kernel
theorem dX3_add_58 : decode cX3_add 58 = .ok (.return_, 1) := by decide +kernel
set_option maxRecDepth 20000 in
theorem ggX3_takeLast_X1_become : GoodIn wsX3_takeLast wsX1_become := goodIn_r _ [7, 8, 9, 10, 11, 12, 15, 16, 17, 18, 19] (by decide +kernel) (by decide +kernel)
set_option maxRecDepth 20000 in
theorem gX3_takeLast_X1_become : GoodIn wsX3_takeLast (wsV RX3 25 RX1 yX1_become wsX1_become) := goodIn_app (goodIn_of _ (by decide +kernel)) ggX3_takeLast_X1_become
theorem dX3_takeLast_0 : decode cX3_takeLast 0 = .ok (.aload_n 0, 1) := by decide +kernel
theorem dX3_takeLast_1 : decode cX3_takeLast 1 = .ok (.getfield 18, 3) := by decide +kernel
theorem dX3_takeLast_4 : decode cX3_takeLast 4 = .ok (.ifCond .le 38, 3) := by decide +kernel
theorem dX3_takeLast_7 : decode cX3_takeLast 7 = .ok (.aload_n 0, 1) := by decide +kernel
theorem dX3_takeLast_8 : decode cX3_takeLast 8 = .ok (.getfield 18, 3) := by decide +kernel
theorem dX3_takeLast_11 : decode cX3_takeLast 11 = .ok (.aload_n 0, 1) := by decide +kernel
theorem dX3_takeLast_12 : decode cX3_takeLast 12 = .ok (.getfield 11, 3) := by decide +kernel
theorem dX3_takeLast_15 : decode cX3_takeLast 15 = .ok (.arraylength, 1) := by decide +kernel
theorem dX3_takeLast_16 : decode cX3_takeLast 16 = .ok (.if_icmp .gt 26, 3) := by decide +kernel
theorem dX3_takeLast_19 : decode cX3_takeLast 19 = .ok (.aload_n 0, 1) := by decide +kernel
theorem dX3_takeLast_20 : decode cX3_takeLast 20 = .ok (.dup, 1) := by decide +kernel
theorem dX3_takeLast_21 : decode cX3_takeLast 21 = .ok (.getfield 18, 3) := by decide +kernel
theorem dX3_takeLast_24 : decode cX3_takeLast 24 = .ok (.iconst 1, 1) := by decide +kernel
theorem dX3_takeLast_25 : decode cX3_takeLast 25 = .ok (.isub, 1) := by decide +kernel
theorem dX3_takeLast_26 : decode cX3_takeLast 26 = .ok (.putfield 18, 3) := by decide +kernel
theorem dX3_takeLast_29 : decode cX3_takeLast 29 = .ok (.aload_n 1, 1) := by decide +kernel
theorem dX3_takeLast_30 : decode cX3_takeLast 30 = .ok (.aload_n 0, 1) := by decide +kernel
theorem dX3_takeLast_31 : decode cX3_takeLast 31 = .ok (.getfield 11, 3) := by decide +kernel
theorem dX3_takeLast_34 : decode cX3_takeLast 34 = .ok (.aload_n 0, 1) := by decide +kernel
theorem dX3_takeLast_35 : decode cX3_takeLast 35 = .ok (.getfield 18, 3) := by decide +kernel
theorem dX3_takeLast_38 : decode cX3_takeLast 38 = .ok (.aaload, 1) := by decide +kernel
theorem dX3_takeLast_39 : decode cX3_takeLast 39 = .ok (.invokevirtual 25, 3) := by decide +kernel
theorem dX3_takeLast_42 : decode cX3_takeLast 42 = .ok (.return_, 1) := by decide +kernel
set_option maxRecDepth 20000 in
theorem ggX3_loseOldest_X1_become : GoodIn wsX3_loseOldest wsX1_become := goodIn_r _ [7, 8, 9, 10, 11, 12, 15, 16, 17, 18, 19] (by decide +kernel) (by decide +kernel)
set_option maxRecDepth 20000 in
theorem gX3_loseOldest_X1_become : GoodIn wsX3_loseOldest (wsV RX3 25 RX1 yX1_become wsX1_become) := goodIn_app (goodIn_of _ (by decide +kernel)) ggX3_loseOldest_X1_become
theorem dX3_loseOldest_0 : decode cX3_loseOldest 0 = .ok (.iconst 1, 1) := by decide +kernel
theorem dX3_loseOldest_1 : decode cX3_loseOldest 1 = .ok (.istore_n 1, 1) := by decide +kernel
theorem dX3_loseOldest_2 : decode cX3_loseOldest 2 = .ok (.iload_n 1, 1) := by decide +kernel
theorem dX3_loseOldest_3 : decode cX3_loseOldest 3 = .ok (.aload_n 0, 1) := by decide +kernel
theorem dX3_loseOldest_4 : decode cX3_loseOldest 4 = .ok (.getfield 11, 3) := by decide +kernel
theorem dX3_loseOldest_7 : decode cX3_loseOldest 7 = .ok (.arraylength, 1) := by decide +kernel
theorem dX3_loseOldest_8 : decode cX3_loseOldest 8 = .ok (.if_icmp .ge 26, 3) := by decide +kernel
theorem dX3_loseOldest_11 : decode cX3_loseOldest 11 = .ok (.aload_n 0, 1) := by decide +kernel
theorem dX3_loseOldest_12 : decode cX3_loseOldest 12 = .ok (.getfield 11, 3) := by decide +kernel
theorem dX3_loseOldest_15 : decode cX3_loseOldest 15 = .ok (.iload_n 1, 1) := by decide +kernel
theorem dX3_loseOldest_16 : decode cX3_loseOldest 16 = .ok (.iconst 1, 1) := by decide +kernel
theorem dX3_loseOldest_17 : decode cX3_loseOldest 17 = .ok (.isub, 1) := by decide +kernel
theorem dX3_loseOldest_18 : decode cX3_loseOldest 18 = .ok (.aaload, 1) := by decide +kernel
theorem dX3_loseOldest_19 : decode cX3_loseOldest 19 = .ok (.aload_n 0, 1) := by decide +kernel
theorem dX3_loseOldest_20 : decode cX3_loseOldest 20 = .ok (.getfield 11, 3) := by decide +kernel
theorem dX3_loseOldest_23 : decode cX3_loseOldest 23 = .ok (.iload_n 1, 1) := by decide +kernel
theorem dX3_loseOldest_24 : decode cX3_loseOldest 24 = .ok (.aaload, 1) := by decide +kernel
theorem dX3_loseOldest_25 : decode cX3_loseOldest 25 = .ok (.invokevirtual 25, 3) := by decide +kernel
theorem dX3_loseOldest_28 : decode cX3_loseOldest 28 = .ok (.iinc 1 1, 3) := by decide +kernel
theorem dX3_loseOldest_31 : decode cX3_loseOldest 31 = .ok (.goto (-29), 3) := by decide +kernel
theorem dX3_loseOldest_34 : decode cX3_loseOldest 34 = .ok (.aload_n 0, 1) := by decide +kernel
theorem dX3_loseOldest_35 : decode cX3_loseOldest 35 = .ok (.aload_n 0, 1) := by decide +kernel
theorem dX3_loseOldest_36 : decode cX3_loseOldest 36 = .ok (.getfield 11, 3) := by decide +kernel
theorem dX3_loseOldest_39 : decode cX3_loseOldest 39 = .ok (.arraylength, 1) := by decide +kernel
theorem dX3_loseOldest_40 : decode cX3_loseOldest 40 = .ok (.iconst 1, 1) := by decide +kernel
theorem dX3_loseOldest_41 : decode cX3_loseOldest 41 = .ok (.isub, 1) := by decide +kernel
theorem dX3_loseOldest_42 : decode cX3_loseOldest 42 = .ok (.putfield 18, 3) := by decide +kernel
theorem dX3_loseOldest_45 : decode cX3_loseOldest 45 = .ok (.return_, 1) := by decide +kernel
