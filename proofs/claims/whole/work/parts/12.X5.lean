theorem dX5_init_0 : decode cX5_init 0 = .ok (.aload_n 0, 1) := by decide +kernel
theorem dX5_init_1 : decode cX5_init 1 = .ok (.invokespecial 3, 3) := by decide +kernel
theorem dX5_init_4 : decode cX5_init 4 = .ok (.aload_n 0, 1) := by decide +kernel
theorem dX5_init_5 : decode cX5_init 5 = .ok (.bipush 6, 2) := by decide +kernel
theorem dX5_init_7 : decode cX5_init 7 = .ok (.newarray .int, 2) := by decide +kernel
theorem dX5_init_9 : decode cX5_init 9 = .ok (.putfield 9, 3) := by decide +kernel
theorem dX5_init_12 : decode cX5_init 12 = .ok (.aload_n 0, 1) := by decide +kernel
theorem dX5_init_13 : decode cX5_init 13 = .ok (.bipush 6, 2) := by decide +kernel
theorem dX5_init_15 : decode cX5_init 15 = .ok (.newarray .int, 2) := by decide +kernel
theorem dX5_init_17 : decode cX5_init 17 = .ok (.putfield 15, 3) := by decide +kernel
theorem dX5_init_20 : decode cX5_init 20 = .ok (.return_, 1) := by decide +kernel
theorem dX5_add_0 : decode cX5_add 0 = .ok (.aload_n 0, 1) := by decide +kernel
theorem dX5_add_1 : decode cX5_add 1 = .ok (.getfield 18, 3) := by decide +kernel
theorem dX5_add_4 : decode cX5_add 4 = .ok (.ifCond .lt 57, 3) := by decide +kernel
theorem dX5_add_7 : decode cX5_add 7 = .ok (.aload_n 0, 1) := by decide +kernel
theorem dX5_add_8 : decode cX5_add 8 = .ok (.getfield 18, 3) := by decide +kernel
theorem dX5_add_11 : decode cX5_add 11 = .ok (.aload_n 0, 1) := by decide +kernel
theorem dX5_add_12 : decode cX5_add 12 = .ok (.getfield 9, 3) := by decide +kernel
theorem dX5_add_15 : decode cX5_add 15 = .ok (.arraylength, 1) := by decide +kernel
theorem dX5_add_16 : decode cX5_add 16 = .ok (.if_icmp .ge 45, 3) := by decide +kernel
theorem dX5_add_19 : decode cX5_add 19 = .ok (.aload_n 0, 1) := by decide +kernel
theorem dX5_add_20 : decode cX5_add 20 = .ok (.getfield 18, 3) := by decide +kernel
theorem dX5_add_23 : decode cX5_add 23 = .ok (.aload_n 0, 1) := by decide +kernel
theorem dX5_add_24 : decode cX5_add 24 = .ok (.getfield 15, 3) := by decide +kernel
theorem dX5_add_27 : decode cX5_add 27 = .ok (.arraylength, 1) := by decide +kernel
theorem dX5_add_28 : decode cX5_add 28 = .ok (.if_icmp .ge 33, 3) := by decide +kernel
theorem dX5_add_31 : decode cX5_add 31 = .ok (.aload_n 0, 1) := by decide +kernel
theorem dX5_add_32 : decode cX5_add 32 = .ok (.getfield 9, 3) := by decide +kernel
theorem dX5_add_35 : decode cX5_add 35 = .ok (.aload_n 0, 1) := by decide +kernel
theorem dX5_add_36 : decode cX5_add 36 = .ok (.getfield 18, 3) := by decide +kernel
theorem dX5_add_39 : decode cX5_add 39 = .ok (.iload_n 1, 1) := by decide +kernel
theorem dX5_add_40 : decode cX5_add 40 = .ok (.iastore, 1) := by decide +kernel
theorem dX5_add_41 : decode cX5_add 41 = .ok (.aload_n 0, 1) := by decide +kernel
theorem dX5_add_42 : decode cX5_add 42 = .ok (.getfield 15, 3) := by decide +kernel
theorem dX5_add_45 : decode cX5_add 45 = .ok (.aload_n 0, 1) := by decide +kernel
theorem dX5_add_46 : decode cX5_add 46 = .ok (.getfield 18, 3) := by decide +kernel
theorem dX5_add_49 : decode cX5_add 49 = .ok (.iload_n 2, 1) := by decide +kernel
theorem dX5_add_50 : decode cX5_add 50 = .ok (.iastore, 1) := by decide +kernel
theorem dX5_add_51 : decode cX5_add 51 = .ok (.aload_n 0, 1) := by decide +kernel
theorem dX5_add_52 : decode cX5_add 52 = .ok (.dup, 1) := by decide +kernel
theorem dX5_add_53 : decode cX5_add 53 = .ok (.getfield 18, 3) := by decide +kernel
theorem dX5_add_56 : decode cX5_add 56 = .ok (.iconst 1, 1) := by decide +kernel
theorem dX5_add_57 : decode cX5_add 57 = .ok (.iadd, 1) := by decide +kernel
theorem dX5_add_58 : decode cX5_add 58 = .ok (.putfield 18, 3) := by decide +kernel
theorem dX5_add_61 : decode cX5_add 61 = .ok (.return_, 1) := by decide +kernel
theorem dX5_allowsBehind_0 : decode cX5_allowsBehind 0 = .ok (.iconst 0, 1) := by decide +kernel
theorem dX5_allowsBehind_1 : decode cX5_allowsBehind 1 = .ok (.istore_n 3, 1) := by decide +kernel
theorem dX5_allowsBehind_2 : decode cX5_allowsBehind 2 = .ok (.iload_n 3, 1) := by decide +kernel
theorem dX5_allowsBehind_3 : decode cX5_allowsBehind 3 = .ok (.aload_n 0, 1) := by decide +kernel
theorem dX5_allowsBehind_4 : decode cX5_allowsBehind 4 = .ok (.getfield 18, 3) := by decide +kernel
theorem dX5_allowsBehind_7 : decode cX5_allowsBehind 7 = .ok (.if_icmp .ge 49, 3) := by decide +kernel
theorem dX5_allowsBehind_10 : decode cX5_allowsBehind 10 = .ok (.iload_n 3, 1) := by decide +kernel
theorem dX5_allowsBehind_11 : decode cX5_allowsBehind 11 = .ok (.aload_n 0, 1) := by decide +kernel
theorem dX5_allowsBehind_12 : decode cX5_allowsBehind 12 = .ok (.getfield 9, 3) := by decide +kernel
theorem dX5_allowsBehind_15 : decode cX5_allowsBehind 15 = .ok (.arraylength, 1) := by decide +kernel
theorem dX5_allowsBehind_16 : decode cX5_allowsBehind 16 = .ok (.if_icmp .ge 40, 3) := by decide +kernel
theorem dX5_allowsBehind_19 : decode cX5_allowsBehind 19 = .ok (.iload_n 3, 1) := by decide +kernel
theorem dX5_allowsBehind_20 : decode cX5_allowsBehind 20 = .ok (.aload_n 0, 1) := by decide +kernel
theorem dX5_allowsBehind_21 : decode cX5_allowsBehind 21 = .ok (.getfield 15, 3) := by decide +kernel
theorem dX5_allowsBehind_24 : decode cX5_allowsBehind 24 = .ok (.arraylength, 1) := by decide +kernel
theorem dX5_allowsBehind_25 : decode cX5_allowsBehind 25 = .ok (.if_icmp .ge 31, 3) := by decide +kernel
theorem dX5_allowsBehind_28 : decode cX5_allowsBehind 28 = .ok (.aload_n 0, 1) := by decide +kernel
theorem dX5_allowsBehind_29 : decode cX5_allowsBehind 29 = .ok (.getfield 9, 3) := by decide +kernel
theorem dX5_allowsBehind_32 : decode cX5_allowsBehind 32 = .ok (.iload_n 3, 1) := by decide +kernel
theorem dX5_allowsBehind_33 : decode cX5_allowsBehind 33 = .ok (.iaload, 1) := by decide +kernel
theorem dX5_allowsBehind_34 : decode cX5_allowsBehind 34 = .ok (.iload_n 1, 1) := by decide +kernel
theorem dX5_allowsBehind_35 : decode cX5_allowsBehind 35 = .ok (.if_icmp .ne 15, 3) := by decide +kernel
theorem dX5_allowsBehind_38 : decode cX5_allowsBehind 38 = .ok (.aload_n 0, 1) := by decide +kernel
theorem dX5_allowsBehind_39 : decode cX5_allowsBehind 39 = .ok (.getfield 15, 3) := by decide +kernel
theorem dX5_allowsBehind_42 : decode cX5_allowsBehind 42 = .ok (.iload_n 3, 1) := by decide +kernel
theorem dX5_allowsBehind_43 : decode cX5_allowsBehind 43 = .ok (.iaload, 1) := by decide +kernel
theorem dX5_allowsBehind_44 : decode cX5_allowsBehind 44 = .ok (.iload_n 2, 1) := by decide +kernel
theorem dX5_allowsBehind_45 : decode cX5_allowsBehind 45 = .ok (.if_icmp .eq 5, 3) := by decide +kernel
theorem dX5_allowsBehind_48 : decode cX5_allowsBehind 48 = .ok (.iconst 0, 1) := by decide +kernel
theorem dX5_allowsBehind_49 : decode cX5_allowsBehind 49 = .ok (.ireturn, 1) := by decide +kernel
theorem dX5_allowsBehind_50 : decode cX5_allowsBehind 50 = .ok (.iinc 3 1, 3) := by decide +kernel
theorem dX5_allowsBehind_53 : decode cX5_allowsBehind 53 = .ok (.goto (-51), 3) := by decide +kernel
theorem dX5_allowsBehind_56 : decode cX5_allowsBehind 56 = .ok (.iconst 1, 1) := by decide +kernel
theorem dX5_allowsBehind_57 : decode cX5_allowsBehind 57 = .ok (.ireturn, 1) := by decide +kernel
