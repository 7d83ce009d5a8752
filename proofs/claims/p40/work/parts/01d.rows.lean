set_option maxRecDepth 20000 in
theorem ggX6_init_X5_init : GoodIn wsX6_init wsX5_init := goodIn_r _ [24, 25, 2, 3, 26, 27, 28, 29, 30, 31, 6, 32, 74] (by decide +kernel) (by decide +kernel)
set_option maxRecDepth 20000 in
theorem gX6_init_X5_init : GoodIn wsX6_init (wsX5_init) := ggX6_init_X5_init
set_option maxRecDepth 20000 in
theorem ggX6_init_X3_init : GoodIn wsX6_init wsX3_init := goodIn_r _ [35, 36, 2, 3, 37, 38, 39, 40, 41, 42, 43, 44, 45, 46, 47, 48, 49, 50, 51, 52, 53, 54, 55, 56, 57, 58, 26, 59, 99, 100, 82, 83, 84, 85, 86, 87, 88, 89, 90, 91] (by decide +kernel) (by decide +kernel)
set_option maxRecDepth 20000 in
theorem gX6_init_X3_init : GoodIn wsX6_init (wsX3_init) := ggX6_init_X3_init
set_option maxRecDepth 20000 in
theorem ggX6_init_X2_init : GoodIn wsX6_init wsX2_init := goodIn_r _ [61, 62, 2, 3, 26, 63, 64, 38, 39, 65, 66, 49, 50, 51, 52, 53, 54, 55, 56, 57, 58, 59, 92, 93, 94, 95, 99, 100] (by decide +kernel) (by decide +kernel)
set_option maxRecDepth 20000 in
theorem gX6_init_X2_init_n35 : GoodIn wsX6_init (wsX2_init) := ggX6_init_X2_init
set_option maxRecDepth 20000 in
theorem ggX6_init_X4_init : GoodIn wsX6_init wsX4_init := goodIn_r _ [68, 69, 2, 3, 26, 70, 71, 72, 73, 96, 97, 98] (by decide +kernel) (by decide +kernel)
set_option maxRecDepth 20000 in
theorem gX6_init_X4_init_n42 : GoodIn wsX6_init (wsX4_init) := ggX6_init_X4_init
theorem dX6_init_0 : decode cX6_init 0 = .ok (.aload_n 0, 1) := by decide +kernel
theorem dX6_init_1 : decode cX6_init 1 = .ok (.invokespecial 3, 3) := by decide +kernel
theorem dX6_init_4 : decode cX6_init 4 = .ok (.aload_n 0, 1) := by decide +kernel
theorem dX6_init_5 : decode cX6_init 5 = .ok (.new 9, 3) := by decide +kernel
theorem dX6_init_8 : decode cX6_init 8 = .ok (.dup, 1) := by decide +kernel
theorem dX6_init_9 : decode cX6_init 9 = .ok (.invokespecial 11, 3) := by decide +kernel
theorem dX6_init_12 : decode cX6_init 12 = .ok (.putfield 12, 3) := by decide +kernel
theorem dX6_init_15 : decode cX6_init 15 = .ok (.aload_n 0, 1) := by decide +kernel
theorem dX6_init_16 : decode cX6_init 16 = .ok (.new 18, 3) := by decide +kernel
theorem dX6_init_19 : decode cX6_init 19 = .ok (.dup, 1) := by decide +kernel
theorem dX6_init_20 : decode cX6_init 20 = .ok (.aload_n 0, 1) := by decide +kernel
theorem dX6_init_21 : decode cX6_init 21 = .ok (.getfield 12, 3) := by decide +kernel
theorem dX6_init_24 : decode cX6_init 24 = .ok (.invokespecial 20, 3) := by decide +kernel
theorem dX6_init_27 : decode cX6_init 27 = .ok (.putfield 23, 3) := by decide +kernel
theorem dX6_init_30 : decode cX6_init 30 = .ok (.aload_n 0, 1) := by decide +kernel
theorem dX6_init_31 : decode cX6_init 31 = .ok (.new 18, 3) := by decide +kernel
theorem dX6_init_34 : decode cX6_init 34 = .ok (.dup, 1) := by decide +kernel
theorem dX6_init_35 : decode cX6_init 35 = .ok (.aload_n 0, 1) := by decide +kernel
theorem dX6_init_36 : decode cX6_init 36 = .ok (.getfield 12, 3) := by decide +kernel
theorem dX6_init_39 : decode cX6_init 39 = .ok (.invokespecial 20, 3) := by decide +kernel
theorem dX6_init_42 : decode cX6_init 42 = .ok (.putfield 27, 3) := by decide +kernel
theorem dX6_init_45 : decode cX6_init 45 = .ok (.aload_n 0, 1) := by decide +kernel
theorem dX6_init_46 : decode cX6_init 46 = .ok (.new 18, 3) := by decide +kernel
theorem dX6_init_49 : decode cX6_init 49 = .ok (.dup, 1) := by decide +kernel
theorem dX6_init_50 : decode cX6_init 50 = .ok (.aload_n 0, 1) := by decide +kernel
theorem dX6_init_51 : decode cX6_init 51 = .ok (.getfield 12, 3) := by decide +kernel
theorem dX6_init_54 : decode cX6_init 54 = .ok (.invokespecial 20, 3) := by decide +kernel
theorem dX6_init_57 : decode cX6_init 57 = .ok (.putfield 30, 3) := by decide +kernel
theorem dX6_init_60 : decode cX6_init 60 = .ok (.aload_n 0, 1) := by decide +kernel
theorem dX6_init_61 : decode cX6_init 61 = .ok (.new 33, 3) := by decide +kernel
theorem dX6_init_64 : decode cX6_init 64 = .ok (.dup, 1) := by decide +kernel
theorem dX6_init_65 : decode cX6_init 65 = .ok (.invokespecial 35, 3) := by decide +kernel
theorem dX6_init_68 : decode cX6_init 68 = .ok (.putfield 36, 3) := by decide +kernel
theorem dX6_init_71 : decode cX6_init 71 = .ok (.aload_n 0, 1) := by decide +kernel
theorem dX6_init_72 : decode cX6_init 72 = .ok (.new 40, 3) := by decide +kernel
theorem dX6_init_75 : decode cX6_init 75 = .ok (.dup, 1) := by decide +kernel
theorem dX6_init_76 : decode cX6_init 76 = .ok (.invokespecial 42, 3) := by decide +kernel
theorem dX6_init_79 : decode cX6_init 79 = .ok (.putfield 43, 3) := by decide +kernel
theorem dX6_init_82 : decode cX6_init 82 = .ok (.return_, 1) := by decide +kernel
set_option maxRecDepth 20000 in
theorem ggX6_prime_X3_become : GoodIn wsX6_prime wsX3_become := goodIn_r _ [6, 7, 8, 9, 10, 11, 12, 13, 21, 22, 23, 24, 25, 26, 27, 28, 29, 30] (by decide +kernel) (by decide +kernel)
set_option maxRecDepth 20000 in
theorem gX6_prime_X3_become : GoodIn wsX6_prime (wsV RX6 54 RX3 yX3_become wsX3_become) := goodIn_app (goodIn_of _ (by decide +kernel)) ggX6_prime_X3_become
theorem dX6_prime_0 : decode cX6_prime 0 = .ok (.iload_n 1, 1) := by decide +kernel
theorem dX6_prime_1 : decode cX6_prime 1 = .ok (.iconst 2, 1) := by decide +kernel
theorem dX6_prime_2 : decode cX6_prime 2 = .ok (.if_icmp .eq 22, 3) := by decide +kernel
theorem dX6_prime_5 : decode cX6_prime 5 = .ok (.iload_n 1, 1) := by decide +kernel
theorem dX6_prime_6 : decode cX6_prime 6 = .ok (.iconst 3, 1) := by decide +kernel
theorem dX6_prime_7 : decode cX6_prime 7 = .ok (.if_icmp .eq 17, 3) := by decide +kernel
theorem dX6_prime_10 : decode cX6_prime 10 = .ok (.iload_n 1, 1) := by decide +kernel
theorem dX6_prime_11 : decode cX6_prime 11 = .ok (.iconst 5, 1) := by decide +kernel
theorem dX6_prime_12 : decode cX6_prime 12 = .ok (.if_icmp .eq 12, 3) := by decide +kernel
theorem dX6_prime_15 : decode cX6_prime 15 = .ok (.iload_n 1, 1) := by decide +kernel
theorem dX6_prime_16 : decode cX6_prime 16 = .ok (.bipush 7, 2) := by decide +kernel
theorem dX6_prime_18 : decode cX6_prime 18 = .ok (.if_icmp .eq 6, 3) := by decide +kernel
theorem dX6_prime_21 : decode cX6_prime 21 = .ok (.bipush (-2), 2) := by decide +kernel
theorem dX6_prime_23 : decode cX6_prime 23 = .ok (.ireturn, 1) := by decide +kernel
theorem dX6_prime_24 : decode cX6_prime 24 = .ok (.aload_n 0, 1) := by decide +kernel
theorem dX6_prime_25 : decode cX6_prime 25 = .ok (.getfield 23, 3) := by decide +kernel
theorem dX6_prime_28 : decode cX6_prime 28 = .ok (.getfield 47, 3) := by decide +kernel
theorem dX6_prime_31 : decode cX6_prime 31 = .ok (.istore_n 2, 1) := by decide +kernel
theorem dX6_prime_32 : decode cX6_prime 32 = .ok (.aload_n 0, 1) := by decide +kernel
theorem dX6_prime_33 : decode cX6_prime 33 = .ok (.getfield 23, 3) := by decide +kernel
theorem dX6_prime_36 : decode cX6_prime 36 = .ok (.iload_n 1, 1) := by decide +kernel
theorem dX6_prime_37 : decode cX6_prime 37 = .ok (.aload_n 0, 1) := by decide +kernel
theorem dX6_prime_38 : decode cX6_prime 38 = .ok (.getfield 23, 3) := by decide +kernel
theorem dX6_prime_41 : decode cX6_prime 41 = .ok (.getfield 51, 3) := by decide +kernel
theorem dX6_prime_44 : decode cX6_prime 44 = .ok (.invokevirtual 54, 3) := by decide +kernel
theorem dX6_prime_47 : decode cX6_prime 47 = .ok (.iload_n 2, 1) := by decide +kernel
theorem dX6_prime_48 : decode cX6_prime 48 = .ok (.ireturn, 1) := by decide +kernel
set_option maxRecDepth 20000 in
theorem ggX6_power_X6_isWithin : GoodIn wsX6_power wsX6_isWithin := goodIn_r _ [5] (by decide +kernel) (by decide +kernel)
set_option maxRecDepth 20000 in
theorem gX6_power_X6_isWithin : GoodIn wsX6_power (va_wsS RX6 58 yX6_isWithin wsX6_isWithin) := goodIn_app (goodIn_of _ (by decide +kernel)) ggX6_power_X6_isWithin
set_option maxRecDepth 20000 in
theorem ggX6_power_X3_become : GoodIn wsX6_power wsX3_become := goodIn_r _ [10, 11, 12, 13, 14, 15, 16, 17, 25, 26, 27, 28, 29, 30, 31, 32, 33, 34] (by decide +kernel) (by decide +kernel)
set_option maxRecDepth 20000 in
theorem gX6_power_X3_become : GoodIn wsX6_power (wsV RX6 54 RX3 yX3_become wsX3_become) := goodIn_app (goodIn_of _ (by decide +kernel)) ggX6_power_X3_become
theorem dX6_power_0 : decode cX6_power 0 = .ok (.iload_n 1, 1) := by decide +kernel
theorem dX6_power_1 : decode cX6_power 1 = .ok (.iconst 1, 1) := by decide +kernel
theorem dX6_power_2 : decode cX6_power 2 = .ok (.iconst 4, 1) := by decide +kernel
theorem dX6_power_3 : decode cX6_power 3 = .ok (.invokestatic 58, 3) := by decide +kernel
theorem dX6_power_6 : decode cX6_power 6 = .ok (.ifCond .ne 6, 3) := by decide +kernel
theorem dX6_power_9 : decode cX6_power 9 = .ok (.bipush (-2), 2) := by decide +kernel
theorem dX6_power_11 : decode cX6_power 11 = .ok (.ireturn, 1) := by decide +kernel
theorem dX6_power_12 : decode cX6_power 12 = .ok (.aload_n 0, 1) := by decide +kernel
theorem dX6_power_13 : decode cX6_power 13 = .ok (.getfield 23, 3) := by decide +kernel
theorem dX6_power_16 : decode cX6_power 16 = .ok (.getfield 51, 3) := by decide +kernel
theorem dX6_power_19 : decode cX6_power 19 = .ok (.istore_n 2, 1) := by decide +kernel
theorem dX6_power_20 : decode cX6_power 20 = .ok (.aload_n 0, 1) := by decide +kernel
theorem dX6_power_21 : decode cX6_power 21 = .ok (.getfield 23, 3) := by decide +kernel
theorem dX6_power_24 : decode cX6_power 24 = .ok (.aload_n 0, 1) := by decide +kernel
theorem dX6_power_25 : decode cX6_power 25 = .ok (.getfield 23, 3) := by decide +kernel
theorem dX6_power_28 : decode cX6_power 28 = .ok (.getfield 47, 3) := by decide +kernel
theorem dX6_power_31 : decode cX6_power 31 = .ok (.iload_n 1, 1) := by decide +kernel
theorem dX6_power_32 : decode cX6_power 32 = .ok (.invokevirtual 54, 3) := by decide +kernel
theorem dX6_power_35 : decode cX6_power 35 = .ok (.iload_n 2, 1) := by decide +kernel
theorem dX6_power_36 : decode cX6_power 36 = .ok (.ireturn, 1) := by decide +kernel
set_option maxRecDepth 20000 in
theorem ggX6_mark_X6_isWithin : GoodIn wsX6_mark wsX6_isWithin := goodIn_r _ [5] (by decide +kernel) (by decide +kernel)
set_option maxRecDepth 20000 in
theorem gX6_mark_X6_isWithin : GoodIn wsX6_mark (va_wsS RX6 58 yX6_isWithin wsX6_isWithin) := goodIn_app (goodIn_of _ (by decide +kernel)) ggX6_mark_X6_isWithin
set_option maxRecDepth 20000 in
theorem ggX6_mark_X1_add : GoodIn wsX6_mark wsX1_add := goodIn_r _ [10, 11, 12, 30, 31] (by decide +kernel) (by decide +kernel)
set_option maxRecDepth 20000 in
theorem gX6_mark_X1_add : GoodIn wsX6_mark (wsV RX6 66 RX1 yX1_add wsX1_add) := goodIn_app (goodIn_of _ (by decide +kernel)) ggX6_mark_X1_add
theorem dX6_mark_0 : decode cX6_mark 0 = .ok (.iload_n 1, 1) := by decide +kernel
theorem dX6_mark_1 : decode cX6_mark 1 = .ok (.iconst 0, 1) := by decide +kernel
theorem dX6_mark_2 : decode cX6_mark 2 = .ok (.iconst 4, 1) := by decide +kernel
theorem dX6_mark_3 : decode cX6_mark 3 = .ok (.invokestatic 58, 3) := by decide +kernel
theorem dX6_mark_6 : decode cX6_mark 6 = .ok (.ifCond .ne 5, 3) := by decide +kernel
theorem dX6_mark_9 : decode cX6_mark 9 = .ok (.iconst (-1), 1) := by decide +kernel
theorem dX6_mark_10 : decode cX6_mark 10 = .ok (.ireturn, 1) := by decide +kernel
theorem dX6_mark_11 : decode cX6_mark 11 = .ok (.iload_n 2, 1) := by decide +kernel
theorem dX6_mark_12 : decode cX6_mark 12 = .ok (.iconst 0, 1) := by decide +kernel
theorem dX6_mark_13 : decode cX6_mark 13 = .ok (.sipush 2400, 3) := by decide +kernel
theorem dX6_mark_16 : decode cX6_mark 16 = .ok (.invokestatic 58, 3) := by decide +kernel
theorem dX6_mark_19 : decode cX6_mark 19 = .ok (.ifCond .ne 6, 3) := by decide +kernel
theorem dX6_mark_22 : decode cX6_mark 22 = .ok (.bipush (-2), 2) := by decide +kernel
theorem dX6_mark_24 : decode cX6_mark 24 = .ok (.ireturn, 1) := by decide +kernel
theorem dX6_mark_25 : decode cX6_mark 25 = .ok (.aload_n 0, 1) := by decide +kernel
theorem dX6_mark_26 : decode cX6_mark 26 = .ok (.getfield 23, 3) := by decide +kernel
theorem dX6_mark_29 : decode cX6_mark 29 = .ok (.getfield 62, 3) := by decide +kernel
theorem dX6_mark_32 : decode cX6_mark 32 = .ok (.iload_n 1, 1) := by decide +kernel
theorem dX6_mark_33 : decode cX6_mark 33 = .ok (.iload_n 2, 1) := by decide +kernel
theorem dX6_mark_34 : decode cX6_mark 34 = .ok (.iconst 0, 1) := by decide +kernel
theorem dX6_mark_35 : decode cX6_mark 35 = .ok (.invokevirtual 66, 3) := by decide +kernel
theorem dX6_mark_38 : decode cX6_mark 38 = .ok (.ireturn, 1) := by decide +kernel
set_option maxRecDepth 20000 in
theorem ggX6_clear_X1_empty : GoodIn wsX6_clear wsX1_empty := goodIn_r _ [6, 7, 25, 26] (by decide +kernel) (by decide +kernel)
set_option maxRecDepth 20000 in
theorem gX6_clear_X1_empty : GoodIn wsX6_clear (wsV RX6 75 RX1 yX1_empty wsX1_empty) := goodIn_app (goodIn_of _ (by decide +kernel)) ggX6_clear_X1_empty
theorem dX6_clear_0 : decode cX6_clear 0 = .ok (.aload_n 0, 1) := by decide +kernel
theorem dX6_clear_1 : decode cX6_clear 1 = .ok (.getfield 23, 3) := by decide +kernel
theorem dX6_clear_4 : decode cX6_clear 4 = .ok (.getfield 62, 3) := by decide +kernel
theorem dX6_clear_7 : decode cX6_clear 7 = .ok (.getfield 72, 3) := by decide +kernel
theorem dX6_clear_10 : decode cX6_clear 10 = .ok (.istore_n 1, 1) := by decide +kernel
theorem dX6_clear_11 : decode cX6_clear 11 = .ok (.aload_n 0, 1) := by decide +kernel
theorem dX6_clear_12 : decode cX6_clear 12 = .ok (.getfield 23, 3) := by decide +kernel
theorem dX6_clear_15 : decode cX6_clear 15 = .ok (.getfield 62, 3) := by decide +kernel
theorem dX6_clear_18 : decode cX6_clear 18 = .ok (.invokevirtual 75, 3) := by decide +kernel
theorem dX6_clear_21 : decode cX6_clear 21 = .ok (.iload_n 1, 1) := by decide +kernel
theorem dX6_clear_22 : decode cX6_clear 22 = .ok (.ireturn, 1) := by decide +kernel
set_option maxRecDepth 20000 in
theorem ggX6_window_X6_isWithin : GoodIn wsX6_window wsX6_isWithin := goodIn_r _ [5] (by decide +kernel) (by decide +kernel)
set_option maxRecDepth 20000 in
theorem gX6_window_X6_isWithin : GoodIn wsX6_window (va_wsS RX6 58 yX6_isWithin wsX6_isWithin) := goodIn_app (goodIn_of _ (by decide +kernel)) ggX6_window_X6_isWithin
theorem dX6_window_0 : decode cX6_window 0 = .ok (.iload_n 1, 1) := by decide +kernel
theorem dX6_window_1 : decode cX6_window 1 = .ok (.iconst 0, 1) := by decide +kernel
theorem dX6_window_2 : decode cX6_window 2 = .ok (.bipush 127, 2) := by decide +kernel
theorem dX6_window_4 : decode cX6_window 4 = .ok (.invokestatic 58, 3) := by decide +kernel
theorem dX6_window_7 : decode cX6_window 7 = .ok (.ifCond .eq 13, 3) := by decide +kernel
theorem dX6_window_10 : decode cX6_window 10 = .ok (.iload_n 2, 1) := by decide +kernel
theorem dX6_window_11 : decode cX6_window 11 = .ok (.iconst 0, 1) := by decide +kernel
theorem dX6_window_12 : decode cX6_window 12 = .ok (.bipush 127, 2) := by decide +kernel
theorem dX6_window_14 : decode cX6_window 14 = .ok (.invokestatic 58, 3) := by decide +kernel
theorem dX6_window_17 : decode cX6_window 17 = .ok (.ifCond .ne 6, 3) := by decide +kernel
theorem dX6_window_20 : decode cX6_window 20 = .ok (.bipush (-2), 2) := by decide +kernel
theorem dX6_window_22 : decode cX6_window 22 = .ok (.ireturn, 1) := by decide +kernel
theorem dX6_window_23 : decode cX6_window 23 = .ok (.sipush 1000, 3) := by decide +kernel
theorem dX6_window_26 : decode cX6_window 26 = .ok (.aload_n 0, 1) := by decide +kernel
theorem dX6_window_27 : decode cX6_window 27 = .ok (.getfield 23, 3) := by decide +kernel
theorem dX6_window_30 : decode cX6_window 30 = .ok (.getfield 78, 3) := by decide +kernel
theorem dX6_window_33 : decode cX6_window 33 = .ok (.imul, 1) := by decide +kernel
theorem dX6_window_34 : decode cX6_window 34 = .ok (.aload_n 0, 1) := by decide +kernel
theorem dX6_window_35 : decode cX6_window 35 = .ok (.getfield 23, 3) := by decide +kernel
theorem dX6_window_38 : decode cX6_window 38 = .ok (.getfield 81, 3) := by decide +kernel
theorem dX6_window_41 : decode cX6_window 41 = .ok (.iadd, 1) := by decide +kernel
theorem dX6_window_42 : decode cX6_window 42 = .ok (.istore_n 3, 1) := by decide +kernel
theorem dX6_window_43 : decode cX6_window 43 = .ok (.aload_n 0, 1) := by decide +kernel
theorem dX6_window_44 : decode cX6_window 44 = .ok (.getfield 23, 3) := by decide +kernel
theorem dX6_window_47 : decode cX6_window 47 = .ok (.iload_n 1, 1) := by decide +kernel
theorem dX6_window_48 : decode cX6_window 48 = .ok (.putfield 78, 3) := by decide +kernel
theorem dX6_window_51 : decode cX6_window 51 = .ok (.aload_n 0, 1) := by decide +kernel
theorem dX6_window_52 : decode cX6_window 52 = .ok (.getfield 23, 3) := by decide +kernel
theorem dX6_window_55 : decode cX6_window 55 = .ok (.iload_n 2, 1) := by decide +kernel
theorem dX6_window_56 : decode cX6_window 56 = .ok (.putfield 81, 3) := by decide +kernel
theorem dX6_window_59 : decode cX6_window 59 = .ok (.iload_n 3, 1) := by decide +kernel
theorem dX6_window_60 : decode cX6_window 60 = .ok (.ireturn, 1) := by decide +kernel
set_option maxRecDepth 20000 in
theorem ggX6_feed_X6_isWithin : GoodIn wsX6_feed wsX6_isWithin := goodIn_r _ [5] (by decide +kernel) (by decide +kernel)
set_option maxRecDepth 20000 in
theorem gX6_feed_X6_isWithin : GoodIn wsX6_feed (va_wsS RX6 58 yX6_isWithin wsX6_isWithin) := goodIn_app (goodIn_of _ (by decide +kernel)) ggX6_feed_X6_isWithin
set_option maxRecDepth 20000 in
theorem ggX6_feed_X2_add : GoodIn wsX6_feed wsX2_add := goodIn_r _ [10, 11, 12, 20, 21, 22, 23] (by decide +kernel) (by decide +kernel)
set_option maxRecDepth 20000 in
theorem gX6_feed_X2_add : GoodIn wsX6_feed (wsV RX6 84 RX2 yX2_add wsX2_add) := goodIn_app (goodIn_of _ (by decide +kernel)) ggX6_feed_X2_add
theorem dX6_feed_0 : decode cX6_feed 0 = .ok (.iload_n 1, 1) := by decide +kernel
theorem dX6_feed_1 : decode cX6_feed 1 = .ok (.iconst 0, 1) := by decide +kernel
theorem dX6_feed_2 : decode cX6_feed 2 = .ok (.bipush 127, 2) := by decide +kernel
theorem dX6_feed_4 : decode cX6_feed 4 = .ok (.invokestatic 58, 3) := by decide +kernel
theorem dX6_feed_7 : decode cX6_feed 7 = .ok (.ifCond .eq 14, 3) := by decide +kernel
theorem dX6_feed_10 : decode cX6_feed 10 = .ok (.aload_n 0, 1) := by decide +kernel
theorem dX6_feed_11 : decode cX6_feed 11 = .ok (.getfield 36, 3) := by decide +kernel
theorem dX6_feed_14 : decode cX6_feed 14 = .ok (.iload_n 1, 1) := by decide +kernel
theorem dX6_feed_15 : decode cX6_feed 15 = .ok (.invokevirtual 84, 3) := by decide +kernel
theorem dX6_feed_18 : decode cX6_feed 18 = .ok (.goto 5, 3) := by decide +kernel
theorem dX6_feed_21 : decode cX6_feed 21 = .ok (.bipush (-2), 2) := by decide +kernel
theorem dX6_feed_23 : decode cX6_feed 23 = .ok (.ireturn, 1) := by decide +kernel
set_option maxRecDepth 20000 in
theorem ggX6_read_X2_faultOfText : GoodIn wsX6_read wsX2_faultOfText := goodIn_r _ [6, 7, 8, 9, 10, 11, 12, 13, 14, 15, 16, 17, 18, 5, 19, 20, 21, 22, 23, 24, 25, 26, 27, 28, 29, 30, 31, 32, 33, 34, 35, 36, 37, 38, 39, 40, 41, 42, 43, 44, 100, 101, 102, 103, 104, 105] (by decide +kernel) (by decide +kernel)
set_option maxRecDepth 20000 in
theorem gX6_read_X2_faultOfText : GoodIn wsX6_read (wsV RX6 87 RX2 yX2_faultOfText wsX2_faultOfText) := goodIn_app (goodIn_of _ (by decide +kernel)) ggX6_read_X2_faultOfText
set_option maxRecDepth 20000 in
theorem ggX6_read_X2_emptyText : GoodIn wsX6_read wsX2_emptyText := goodIn_r _ [48, 9, 100, 101, 102, 103] (by decide +kernel) (by decide +kernel)
set_option maxRecDepth 20000 in
theorem gX6_read_X2_emptyText : GoodIn wsX6_read (wsV RX6 91 RX2 yX2_emptyText wsX2_emptyText) := goodIn_app (goodIn_of _ (by decide +kernel)) ggX6_read_X2_emptyText
set_option maxRecDepth 20000 in
theorem ggX6_read_X1_number : GoodIn wsX6_read wsX1_number := goodIn_r _ [52, 15, 44, 33, 34, 35, 104, 105] (by decide +kernel) (by decide +kernel)
set_option maxRecDepth 20000 in
theorem gX6_read_X1_number : GoodIn wsX6_read (wsV RX6 97 RX1 yX1_number wsX1_number) := goodIn_app (goodIn_of _ (by decide +kernel)) ggX6_read_X1_number
set_option maxRecDepth 20000 in
theorem ggX6_read_X6_doClause : GoodIn wsX6_read wsX6_doClause := goodIn_r _ [56, 57, 58, 59, 34, 60, 61, 62, 63, 64, 65, 66, 67, 68, 69, 70, 71, 72, 73, 74, 75, 76, 77, 78, 33, 35, 79, 80, 81, 82, 83, 41, 42, 13, 43, 15, 44, 84, 85, 86, 87, 88, 89, 90, 91, 92, 11, 12, 14, 93, 94, 95, 96, 97, 98, 99, 106, 107, 108, 109, 110, 111, 112, 113, 114, 115, 104, 105] (by decide +kernel) (by decide +kernel)
set_option maxRecDepth 20000 in
theorem gX6_read_X6_doClause : GoodIn wsX6_read (wsV RX6 101 RX6 yX6_doClause wsX6_doClause) := goodIn_app (goodIn_of _ (by decide +kernel)) ggX6_read_X6_doClause
theorem dX6_read_0 : decode cX6_read 0 = .ok (.aload_n 0, 1) := by decide +kernel
theorem dX6_read_1 : decode cX6_read 1 = .ok (.getfield 36, 3) := by decide +kernel
theorem dX6_read_4 : decode cX6_read 4 = .ok (.invokevirtual 87, 3) := by decide +kernel
theorem dX6_read_7 : decode cX6_read 7 = .ok (.istore_n 1, 1) := by decide +kernel
theorem dX6_read_8 : decode cX6_read 8 = .ok (.aload_n 0, 1) := by decide +kernel
theorem dX6_read_9 : decode cX6_read 9 = .ok (.getfield 36, 3) := by decide +kernel
theorem dX6_read_12 : decode cX6_read 12 = .ok (.invokevirtual 91, 3) := by decide +kernel
theorem dX6_read_15 : decode cX6_read 15 = .ok (.iload_n 1, 1) := by decide +kernel
theorem dX6_read_16 : decode cX6_read 16 = .ok (.iconst (-1), 1) := by decide +kernel
theorem dX6_read_17 : decode cX6_read 17 = .ok (.if_icmp .eq 8, 3) := by decide +kernel
theorem dX6_read_20 : decode cX6_read 20 = .ok (.bipush (-10), 2) := by decide +kernel
theorem dX6_read_22 : decode cX6_read 22 = .ok (.iload_n 1, 1) := by decide +kernel
theorem dX6_read_23 : decode cX6_read 23 = .ok (.isub, 1) := by decide +kernel
theorem dX6_read_24 : decode cX6_read 24 = .ok (.ireturn, 1) := by decide +kernel
theorem dX6_read_25 : decode cX6_read 25 = .ok (.iconst 0, 1) := by decide +kernel
theorem dX6_read_26 : decode cX6_read 26 = .ok (.istore_n 2, 1) := by decide +kernel
theorem dX6_read_27 : decode cX6_read 27 = .ok (.iconst 0, 1) := by decide +kernel
theorem dX6_read_28 : decode cX6_read 28 = .ok (.istore_n 3, 1) := by decide +kernel
theorem dX6_read_29 : decode cX6_read 29 = .ok (.iload_n 3, 1) := by decide +kernel
theorem dX6_read_30 : decode cX6_read 30 = .ok (.aload_n 0, 1) := by decide +kernel
theorem dX6_read_31 : decode cX6_read 31 = .ok (.getfield 36, 3) := by decide +kernel
theorem dX6_read_34 : decode cX6_read 34 = .ok (.getfield 94, 3) := by decide +kernel
theorem dX6_read_37 : decode cX6_read 37 = .ok (.getfield 72, 3) := by decide +kernel
theorem dX6_read_40 : decode cX6_read 40 = .ok (.if_icmp .ge 55, 3) := by decide +kernel
theorem dX6_read_43 : decode cX6_read 43 = .ok (.aload_n 0, 1) := by decide +kernel
theorem dX6_read_44 : decode cX6_read 44 = .ok (.aload_n 0, 1) := by decide +kernel
theorem dX6_read_45 : decode cX6_read 45 = .ok (.getfield 36, 3) := by decide +kernel
theorem dX6_read_48 : decode cX6_read 48 = .ok (.getfield 94, 3) := by decide +kernel
theorem dX6_read_51 : decode cX6_read 51 = .ok (.iload_n 3, 1) := by decide +kernel
theorem dX6_read_52 : decode cX6_read 52 = .ok (.iconst 0, 1) := by decide +kernel
theorem dX6_read_53 : decode cX6_read 53 = .ok (.invokevirtual 97, 3) := by decide +kernel
theorem dX6_read_56 : decode cX6_read 56 = .ok (.aload_n 0, 1) := by decide +kernel
theorem dX6_read_57 : decode cX6_read 57 = .ok (.getfield 36, 3) := by decide +kernel
theorem dX6_read_60 : decode cX6_read 60 = .ok (.getfield 94, 3) := by decide +kernel
theorem dX6_read_63 : decode cX6_read 63 = .ok (.iload_n 3, 1) := by decide +kernel
theorem dX6_read_64 : decode cX6_read 64 = .ok (.iconst 1, 1) := by decide +kernel
theorem dX6_read_65 : decode cX6_read 65 = .ok (.invokevirtual 97, 3) := by decide +kernel
theorem dX6_read_68 : decode cX6_read 68 = .ok (.aload_n 0, 1) := by decide +kernel
theorem dX6_read_69 : decode cX6_read 69 = .ok (.getfield 36, 3) := by decide +kernel
theorem dX6_read_72 : decode cX6_read 72 = .ok (.getfield 94, 3) := by decide +kernel
theorem dX6_read_75 : decode cX6_read 75 = .ok (.iload_n 3, 1) := by decide +kernel
theorem dX6_read_76 : decode cX6_read 76 = .ok (.iconst 2, 1) := by decide +kernel
theorem dX6_read_77 : decode cX6_read 77 = .ok (.invokevirtual 97, 3) := by decide +kernel
theorem dX6_read_80 : decode cX6_read 80 = .ok (.invokevirtual 101, 3) := by decide +kernel
theorem dX6_read_83 : decode cX6_read 83 = .ok (.ifCond .lt 6, 3) := by decide +kernel
theorem dX6_read_86 : decode cX6_read 86 = .ok (.iinc 2 1, 3) := by decide +kernel
theorem dX6_read_89 : decode cX6_read 89 = .ok (.iinc 3 1, 3) := by decide +kernel
theorem dX6_read_92 : decode cX6_read 92 = .ok (.goto (-63), 3) := by decide +kernel
theorem dX6_read_95 : decode cX6_read 95 = .ok (.iload_n 2, 1) := by decide +kernel
theorem dX6_read_96 : decode cX6_read 96 = .ok (.ireturn, 1) := by decide +kernel
set_option maxRecDepth 20000 in
theorem ggX6_doClause_X6_prime : GoodIn wsX6_doClause wsX6_prime := goodIn_r _ [5, 6, 7, 8, 9, 10, 11, 12, 13, 14, 15, 16, 17, 18, 49, 50, 51, 52, 53, 54, 55, 56, 57, 58, 59, 60, 61, 62, 63, 64, 65] (by decide +kernel) (by decide +kernel)
set_option maxRecDepth 20000 in
theorem gX6_doClause_X6_prime : GoodIn wsX6_doClause (wsV RX6 104 RX6 yX6_prime wsX6_prime) := goodIn_app (goodIn_of _ (by decide +kernel)) ggX6_doClause_X6_prime
set_option maxRecDepth 20000 in
theorem ggX6_doClause_X6_power : GoodIn wsX6_doClause wsX6_power := goodIn_r _ [22, 6, 23, 24, 4, 25, 7, 8, 9, 10, 11, 12, 13, 14, 15, 16, 17, 18, 49, 50, 51, 52, 53, 54, 55, 56, 57, 58, 59, 60, 61, 62, 63, 64, 65] (by decide +kernel) (by decide +kernel)
set_option maxRecDepth 20000 in
theorem gX6_doClause_X6_power : GoodIn wsX6_doClause (wsV RX6 107 RX6 yX6_power wsX6_power) := goodIn_app (goodIn_of _ (by decide +kernel)) ggX6_doClause_X6_power
set_option maxRecDepth 20000 in
theorem ggX6_doClause_X6_mark : GoodIn wsX6_doClause wsX6_mark := goodIn_r _ [29, 6, 23, 24, 4, 25, 30, 31, 32, 33, 34, 35, 36, 49, 50, 51, 52, 53, 54, 55, 56, 57, 58, 59, 60, 61, 62, 63, 64, 65, 66, 67] (by decide +kernel) (by decide +kernel)
set_option maxRecDepth 20000 in
theorem gX6_doClause_X6_mark : GoodIn wsX6_doClause (wsV RX6 110 RX6 yX6_mark wsX6_mark) := goodIn_app (goodIn_of _ (by decide +kernel)) ggX6_doClause_X6_mark
set_option maxRecDepth 20000 in
theorem ggX6_doClause_X6_window : GoodIn wsX6_doClause wsX6_window := goodIn_r _ [40, 6, 23, 24, 4, 25, 49, 50, 51, 52, 53, 54, 55, 56, 57, 58, 59, 60, 61, 62, 63, 64, 65] (by decide +kernel) (by decide +kernel)
set_option maxRecDepth 20000 in
theorem gX6_doClause_X6_window : GoodIn wsX6_doClause (wsV RX6 113 RX6 yX6_window wsX6_window) := goodIn_app (goodIn_of _ (by decide +kernel)) ggX6_doClause_X6_window
set_option maxRecDepth 20000 in
theorem ggX6_doClause_X6_clear : GoodIn wsX6_doClause wsX6_clear := goodIn_r _ [44, 6, 45, 46, 47, 33, 48, 35, 49, 50, 51, 52, 53, 54, 55, 56, 57, 58, 59, 60, 61, 62, 63, 64, 65, 66, 67] (by decide +kernel) (by decide +kernel)
set_option maxRecDepth 20000 in
theorem gX6_doClause_X6_clear : GoodIn wsX6_doClause (wsV RX6 116 RX6 yX6_clear wsX6_clear) := goodIn_app (goodIn_of _ (by decide +kernel)) ggX6_doClause_X6_clear
theorem dX6_doClause_0 : decode cX6_doClause 0 = .ok (.iload_n 1, 1) := by decide +kernel
theorem dX6_doClause_1 : decode cX6_doClause 1 = .ok (.lookupswitch 69 #[(101, 49), (109, 55), (112, 43), (119, 62)], 43) := by decide +kernel
theorem dX6_doClause_44 : decode cX6_doClause 44 = .ok (.aload_n 0, 1) := by decide +kernel
theorem dX6_doClause_45 : decode cX6_doClause 45 = .ok (.iload_n 2, 1) := by decide +kernel
theorem dX6_doClause_46 : decode cX6_doClause 46 = .ok (.invokevirtual 104, 3) := by decide +kernel
theorem dX6_doClause_49 : decode cX6_doClause 49 = .ok (.ireturn, 1) := by decide +kernel
theorem dX6_doClause_50 : decode cX6_doClause 50 = .ok (.aload_n 0, 1) := by decide +kernel
theorem dX6_doClause_51 : decode cX6_doClause 51 = .ok (.iload_n 2, 1) := by decide +kernel
theorem dX6_doClause_52 : decode cX6_doClause 52 = .ok (.invokevirtual 107, 3) := by decide +kernel
theorem dX6_doClause_55 : decode cX6_doClause 55 = .ok (.ireturn, 1) := by decide +kernel
theorem dX6_doClause_56 : decode cX6_doClause 56 = .ok (.aload_n 0, 1) := by decide +kernel
theorem dX6_doClause_57 : decode cX6_doClause 57 = .ok (.iload_n 2, 1) := by decide +kernel
theorem dX6_doClause_58 : decode cX6_doClause 58 = .ok (.iload_n 3, 1) := by decide +kernel
theorem dX6_doClause_59 : decode cX6_doClause 59 = .ok (.invokevirtual 110, 3) := by decide +kernel
theorem dX6_doClause_62 : decode cX6_doClause 62 = .ok (.ireturn, 1) := by decide +kernel
theorem dX6_doClause_63 : decode cX6_doClause 63 = .ok (.aload_n 0, 1) := by decide +kernel
theorem dX6_doClause_64 : decode cX6_doClause 64 = .ok (.iload_n 2, 1) := by decide +kernel
theorem dX6_doClause_65 : decode cX6_doClause 65 = .ok (.iload_n 3, 1) := by decide +kernel
theorem dX6_doClause_66 : decode cX6_doClause 66 = .ok (.invokevirtual 113, 3) := by decide +kernel
theorem dX6_doClause_69 : decode cX6_doClause 69 = .ok (.ireturn, 1) := by decide +kernel
theorem dX6_doClause_70 : decode cX6_doClause 70 = .ok (.aload_n 0, 1) := by decide +kernel
theorem dX6_doClause_71 : decode cX6_doClause 71 = .ok (.invokevirtual 116, 3) := by decide +kernel
theorem dX6_doClause_74 : decode cX6_doClause 74 = .ok (.ireturn, 1) := by decide +kernel
set_option maxRecDepth 20000 in
theorem ggX6_told_X3_markedInWindow : GoodIn wsX6_told wsX3_markedInWindow := goodIn_r _ [6, 7, 8, 9, 5, 10, 11, 12, 13, 14, 15, 16, 17, 18, 19, 20, 21, 22, 23, 24, 25, 26, 27, 28, 29, 30, 31, 32, 33, 34, 35, 36, 37, 38, 39, 40, 41, 42, 43, 44, 45, 46, 47, 48, 49, 50, 51, 52, 53, 54, 55, 56, 57, 58, 59, 60, 61, 62, 63, 64, 65, 66, 67, 68, 69, 70, 71, 79, 80, 81, 82, 83, 84, 85, 86, 87, 88, 89, 90, 91] (by decide +kernel) (by decide +kernel)
set_option maxRecDepth 20000 in
theorem gX6_told_X3_markedInWindow : GoodIn wsX6_told (wsV RX6 122 RX3 yX3_markedInWindow wsX3_markedInWindow) := goodIn_app (goodIn_of _ (by decide +kernel)) ggX6_told_X3_markedInWindow
theorem dX6_told_0 : decode cX6_told 0 = .ok (.iload_n 1, 1) := by decide +kernel
theorem dX6_told_1 : decode cX6_told 1 = .ok (.tableswitch 102 0 6 #[43, 51, 59, 67, 78, 86, 94], 43) := by decide +kernel
theorem dX6_told_44 : decode cX6_told 44 = .ok (.aload_n 0, 1) := by decide +kernel
theorem dX6_told_45 : decode cX6_told 45 = .ok (.getfield 23, 3) := by decide +kernel
theorem dX6_told_48 : decode cX6_told 48 = .ok (.getfield 47, 3) := by decide +kernel
theorem dX6_told_51 : decode cX6_told 51 = .ok (.ireturn, 1) := by decide +kernel
theorem dX6_told_52 : decode cX6_told 52 = .ok (.aload_n 0, 1) := by decide +kernel
theorem dX6_told_53 : decode cX6_told 53 = .ok (.getfield 23, 3) := by decide +kernel
theorem dX6_told_56 : decode cX6_told 56 = .ok (.getfield 51, 3) := by decide +kernel
theorem dX6_told_59 : decode cX6_told 59 = .ok (.ireturn, 1) := by decide +kernel
theorem dX6_told_60 : decode cX6_told 60 = .ok (.aload_n 0, 1) := by decide +kernel
theorem dX6_told_61 : decode cX6_told 61 = .ok (.getfield 23, 3) := by decide +kernel
theorem dX6_told_64 : decode cX6_told 64 = .ok (.getfield 119, 3) := by decide +kernel
theorem dX6_told_67 : decode cX6_told 67 = .ok (.ireturn, 1) := by decide +kernel
theorem dX6_told_68 : decode cX6_told 68 = .ok (.aload_n 0, 1) := by decide +kernel
theorem dX6_told_69 : decode cX6_told 69 = .ok (.getfield 23, 3) := by decide +kernel
theorem dX6_told_72 : decode cX6_told 72 = .ok (.getfield 62, 3) := by decide +kernel
theorem dX6_told_75 : decode cX6_told 75 = .ok (.getfield 72, 3) := by decide +kernel
theorem dX6_told_78 : decode cX6_told 78 = .ok (.ireturn, 1) := by decide +kernel
theorem dX6_told_79 : decode cX6_told 79 = .ok (.aload_n 0, 1) := by decide +kernel
theorem dX6_told_80 : decode cX6_told 80 = .ok (.getfield 23, 3) := by decide +kernel
theorem dX6_told_83 : decode cX6_told 83 = .ok (.getfield 78, 3) := by decide +kernel
theorem dX6_told_86 : decode cX6_told 86 = .ok (.ireturn, 1) := by decide +kernel
theorem dX6_told_87 : decode cX6_told 87 = .ok (.aload_n 0, 1) := by decide +kernel
theorem dX6_told_88 : decode cX6_told 88 = .ok (.getfield 23, 3) := by decide +kernel
theorem dX6_told_91 : decode cX6_told 91 = .ok (.getfield 81, 3) := by decide +kernel
theorem dX6_told_94 : decode cX6_told 94 = .ok (.ireturn, 1) := by decide +kernel
theorem dX6_told_95 : decode cX6_told 95 = .ok (.aload_n 0, 1) := by decide +kernel
theorem dX6_told_96 : decode cX6_told 96 = .ok (.getfield 23, 3) := by decide +kernel
theorem dX6_told_99 : decode cX6_told 99 = .ok (.invokevirtual 122, 3) := by decide +kernel
theorem dX6_told_102 : decode cX6_told 102 = .ok (.ireturn, 1) := by decide +kernel
theorem dX6_told_103 : decode cX6_told 103 = .ok (.iconst (-1), 1) := by decide +kernel
theorem dX6_told_104 : decode cX6_told 104 = .ok (.ireturn, 1) := by decide +kernel
set_option maxRecDepth 20000 in
theorem ggX6_markOf_X6_isWithin : GoodIn wsX6_markOf wsX6_isWithin := goodIn_r _ [5] (by decide +kernel) (by decide +kernel)
set_option maxRecDepth 20000 in
theorem gX6_markOf_X6_isWithin : GoodIn wsX6_markOf (va_wsS RX6 58 yX6_isWithin wsX6_isWithin) := goodIn_app (goodIn_of _ (by decide +kernel)) ggX6_markOf_X6_isWithin
set_option maxRecDepth 20000 in
theorem ggX6_markOf_X1_number : GoodIn wsX6_markOf wsX1_number := goodIn_r _ [10, 11, 12, 3, 4, 5, 30, 31] (by decide +kernel) (by decide +kernel)
set_option maxRecDepth 20000 in
theorem gX6_markOf_X1_number : GoodIn wsX6_markOf (wsV RX6 97 RX1 yX1_number wsX1_number) := goodIn_app (goodIn_of _ (by decide +kernel)) ggX6_markOf_X1_number
theorem dX6_markOf_0 : decode cX6_markOf 0 = .ok (.iload_n 1, 1) := by decide +kernel
theorem dX6_markOf_1 : decode cX6_markOf 1 = .ok (.iconst 0, 1) := by decide +kernel
theorem dX6_markOf_2 : decode cX6_markOf 2 = .ok (.aload_n 0, 1) := by decide +kernel
theorem dX6_markOf_3 : decode cX6_markOf 3 = .ok (.getfield 23, 3) := by decide +kernel
theorem dX6_markOf_6 : decode cX6_markOf 6 = .ok (.getfield 62, 3) := by decide +kernel
theorem dX6_markOf_9 : decode cX6_markOf 9 = .ok (.getfield 72, 3) := by decide +kernel
theorem dX6_markOf_12 : decode cX6_markOf 12 = .ok (.iconst 1, 1) := by decide +kernel
theorem dX6_markOf_13 : decode cX6_markOf 13 = .ok (.isub, 1) := by decide +kernel
theorem dX6_markOf_14 : decode cX6_markOf 14 = .ok (.invokestatic 58, 3) := by decide +kernel
theorem dX6_markOf_17 : decode cX6_markOf 17 = .ok (.ifCond .eq 12, 3) := by decide +kernel
theorem dX6_markOf_20 : decode cX6_markOf 20 = .ok (.iload_n 2, 1) := by decide +kernel
theorem dX6_markOf_21 : decode cX6_markOf 21 = .ok (.iconst 0, 1) := by decide +kernel
theorem dX6_markOf_22 : decode cX6_markOf 22 = .ok (.iconst 1, 1) := by decide +kernel
theorem dX6_markOf_23 : decode cX6_markOf 23 = .ok (.invokestatic 58, 3) := by decide +kernel
theorem dX6_markOf_26 : decode cX6_markOf 26 = .ok (.ifCond .ne 5, 3) := by decide +kernel
theorem dX6_markOf_29 : decode cX6_markOf 29 = .ok (.iconst (-1), 1) := by decide +kernel
theorem dX6_markOf_30 : decode cX6_markOf 30 = .ok (.ireturn, 1) := by decide +kernel
theorem dX6_markOf_31 : decode cX6_markOf 31 = .ok (.aload_n 0, 1) := by decide +kernel
theorem dX6_markOf_32 : decode cX6_markOf 32 = .ok (.getfield 23, 3) := by decide +kernel
theorem dX6_markOf_35 : decode cX6_markOf 35 = .ok (.getfield 62, 3) := by decide +kernel
theorem dX6_markOf_38 : decode cX6_markOf 38 = .ok (.iload_n 1, 1) := by decide +kernel
theorem dX6_markOf_39 : decode cX6_markOf 39 = .ok (.iload_n 2, 1) := by decide +kernel
theorem dX6_markOf_40 : decode cX6_markOf 40 = .ok (.invokevirtual 97, 3) := by decide +kernel
theorem dX6_markOf_43 : decode cX6_markOf 43 = .ok (.ireturn, 1) := by decide +kernel
set_option maxRecDepth 20000 in
theorem ggX6_at_X6_isRow : GoodIn wsX6_at wsX6_isRow := goodIn_r _ [5, 6, 7, 4, 8] (by decide +kernel) (by decide +kernel)
set_option maxRecDepth 20000 in
theorem gX6_at_X6_isRow : GoodIn wsX6_at (va_wsS RX6 125 yX6_isRow wsX6_isRow) := goodIn_app (goodIn_of _ (by decide +kernel)) ggX6_at_X6_isRow
set_option maxRecDepth 20000 in
theorem ggX6_at_X3_remainder : GoodIn wsX6_at wsX3_remainder := goodIn_r _ [13, 14, 15, 16, 17, 18, 19, 20, 21, 22, 23, 24, 25, 33, 34, 35, 36, 37, 38, 39, 40, 41, 42, 43] (by decide +kernel) (by decide +kernel)
set_option maxRecDepth 20000 in
theorem gX6_at_X3_remainder : GoodIn wsX6_at (wsV RX6 129 RX3 yX3_remainder wsX3_remainder) := goodIn_app (goodIn_of _ (by decide +kernel)) ggX6_at_X3_remainder
theorem dX6_at_0 : decode cX6_at 0 = .ok (.iload_n 1, 1) := by decide +kernel
theorem dX6_at_1 : decode cX6_at 1 = .ok (.invokestatic 125, 3) := by decide +kernel
theorem dX6_at_4 : decode cX6_at 4 = .ok (.ifCond .eq 15, 3) := by decide +kernel
theorem dX6_at_7 : decode cX6_at 7 = .ok (.aload_n 0, 1) := by decide +kernel
theorem dX6_at_8 : decode cX6_at 8 = .ok (.getfield 23, 3) := by decide +kernel
theorem dX6_at_11 : decode cX6_at 11 = .ok (.iload_n 1, 1) := by decide +kernel
theorem dX6_at_12 : decode cX6_at 12 = .ok (.iload_n 2, 1) := by decide +kernel
theorem dX6_at_13 : decode cX6_at 13 = .ok (.invokevirtual 129, 3) := by decide +kernel
theorem dX6_at_16 : decode cX6_at 16 = .ok (.goto 4, 3) := by decide +kernel
theorem dX6_at_19 : decode cX6_at 19 = .ok (.iconst (-1), 1) := by decide +kernel
theorem dX6_at_20 : decode cX6_at 20 = .ok (.ireturn, 1) := by decide +kernel
set_option maxRecDepth 20000 in
theorem ggX6_event_X1_empty : GoodIn wsX6_event wsX1_empty := goodIn_r _ [6, 7, 38, 39] (by decide +kernel) (by decide +kernel)
set_option maxRecDepth 20000 in
theorem gX6_event_X1_empty : GoodIn wsX6_event (wsV RX6 75 RX1 yX1_empty wsX1_empty) := goodIn_app (goodIn_of _ (by decide +kernel)) ggX6_event_X1_empty
set_option maxRecDepth 20000 in
theorem ggX6_event_X6_addEvent : GoodIn wsX6_event wsX6_addEvent := goodIn_r _ [12, 1, 13, 14, 11, 15, 16, 17, 18, 5, 19, 7, 20, 21, 22, 23, 24, 25, 26, 27, 28, 29, 30, 31, 32, 33, 34, 35, 36, 37, 38, 39] (by decide +kernel) (by decide +kernel)
set_option maxRecDepth 20000 in
theorem gX6_event_X6_addEvent : GoodIn wsX6_event (wsV RX6 224 RX6 yX6_addEvent wsX6_addEvent) := goodIn_app (goodIn_of _ (by decide +kernel)) ggX6_event_X6_addEvent
theorem dX6_event_0 : decode cX6_event 0 = .ok (.iload_n 1, 1) := by decide +kernel
theorem dX6_event_1 : decode cX6_event 1 = .ok (.iconst (-1), 1) := by decide +kernel
theorem dX6_event_2 : decode cX6_event 2 = .ok (.if_icmp .ne 15, 3) := by decide +kernel
theorem dX6_event_5 : decode cX6_event 5 = .ok (.aload_n 0, 1) := by decide +kernel
theorem dX6_event_6 : decode cX6_event 6 = .ok (.getfield 23, 3) := by decide +kernel
theorem dX6_event_9 : decode cX6_event 9 = .ok (.getfield 221, 3) := by decide +kernel
theorem dX6_event_12 : decode cX6_event 12 = .ok (.invokevirtual 75, 3) := by decide +kernel
theorem dX6_event_15 : decode cX6_event 15 = .ok (.iconst 0, 1) := by decide +kernel
theorem dX6_event_16 : decode cX6_event 16 = .ok (.ireturn, 1) := by decide +kernel
theorem dX6_event_17 : decode cX6_event 17 = .ok (.iload_n 1, 1) := by decide +kernel
theorem dX6_event_18 : decode cX6_event 18 = .ok (.tableswitch 67 0 3 #[30, 39, 48, 58], 30) := by decide +kernel
theorem dX6_event_48 : decode cX6_event 48 = .ok (.aload_n 0, 1) := by decide +kernel
theorem dX6_event_49 : decode cX6_event 49 = .ok (.iload_n 1, 1) := by decide +kernel
theorem dX6_event_50 : decode cX6_event 50 = .ok (.iload_n 2, 1) := by decide +kernel
theorem dX6_event_51 : decode cX6_event 51 = .ok (.iconst 0, 1) := by decide +kernel
theorem dX6_event_52 : decode cX6_event 52 = .ok (.iconst 0, 1) := by decide +kernel
theorem dX6_event_53 : decode cX6_event 53 = .ok (.invokevirtual 224, 3) := by decide +kernel
theorem dX6_event_56 : decode cX6_event 56 = .ok (.ireturn, 1) := by decide +kernel
theorem dX6_event_57 : decode cX6_event 57 = .ok (.aload_n 0, 1) := by decide +kernel
theorem dX6_event_58 : decode cX6_event 58 = .ok (.iload_n 1, 1) := by decide +kernel
theorem dX6_event_59 : decode cX6_event 59 = .ok (.iload_n 2, 1) := by decide +kernel
theorem dX6_event_60 : decode cX6_event 60 = .ok (.iconst 1, 1) := by decide +kernel
theorem dX6_event_61 : decode cX6_event 61 = .ok (.iconst 4, 1) := by decide +kernel
theorem dX6_event_62 : decode cX6_event 62 = .ok (.invokevirtual 224, 3) := by decide +kernel
theorem dX6_event_65 : decode cX6_event 65 = .ok (.ireturn, 1) := by decide +kernel
theorem dX6_event_66 : decode cX6_event 66 = .ok (.aload_n 0, 1) := by decide +kernel
theorem dX6_event_67 : decode cX6_event 67 = .ok (.iload_n 1, 1) := by decide +kernel
theorem dX6_event_68 : decode cX6_event 68 = .ok (.iload_n 2, 1) := by decide +kernel
theorem dX6_event_69 : decode cX6_event 69 = .ok (.iconst 0, 1) := by decide +kernel
theorem dX6_event_70 : decode cX6_event 70 = .ok (.bipush 99, 2) := by decide +kernel
theorem dX6_event_72 : decode cX6_event 72 = .ok (.invokevirtual 224, 3) := by decide +kernel
theorem dX6_event_75 : decode cX6_event 75 = .ok (.ireturn, 1) := by decide +kernel
theorem dX6_event_76 : decode cX6_event 76 = .ok (.aload_n 0, 1) := by decide +kernel
theorem dX6_event_77 : decode cX6_event 77 = .ok (.iload_n 1, 1) := by decide +kernel
theorem dX6_event_78 : decode cX6_event 78 = .ok (.iload_n 2, 1) := by decide +kernel
theorem dX6_event_79 : decode cX6_event 79 = .ok (.iconst 0, 1) := by decide +kernel
theorem dX6_event_80 : decode cX6_event 80 = .ok (.iconst 5, 1) := by decide +kernel
theorem dX6_event_81 : decode cX6_event 81 = .ok (.invokevirtual 224, 3) := by decide +kernel
theorem dX6_event_84 : decode cX6_event 84 = .ok (.ireturn, 1) := by decide +kernel
theorem dX6_event_85 : decode cX6_event 85 = .ok (.iconst (-1), 1) := by decide +kernel
theorem dX6_event_86 : decode cX6_event 86 = .ok (.ireturn, 1) := by decide +kernel
set_option maxRecDepth 20000 in
theorem ggX6_addEvent_X6_isWithin : GoodIn wsX6_addEvent wsX6_isWithin := goodIn_r _ [5] (by decide +kernel) (by decide +kernel)
set_option maxRecDepth 20000 in
theorem gX6_addEvent_X6_isWithin : GoodIn wsX6_addEvent (va_wsS RX6 58 yX6_isWithin wsX6_isWithin) := goodIn_app (goodIn_of _ (by decide +kernel)) ggX6_addEvent_X6_isWithin
set_option maxRecDepth 20000 in
theorem ggX6_addEvent_X1_add : GoodIn wsX6_addEvent wsX1_add := goodIn_r _ [10, 11, 12, 30, 31] (by decide +kernel) (by decide +kernel)
set_option maxRecDepth 20000 in
theorem gX6_addEvent_X1_add : GoodIn wsX6_addEvent (wsV RX6 66 RX1 yX1_add wsX1_add) := goodIn_app (goodIn_of _ (by decide +kernel)) ggX6_addEvent_X1_add
theorem dX6_addEvent_0 : decode cX6_addEvent 0 = .ok (.iload_n 2, 1) := by decide +kernel
theorem dX6_addEvent_1 : decode cX6_addEvent 1 = .ok (.iload_n 3, 1) := by decide +kernel
theorem dX6_addEvent_2 : decode cX6_addEvent 2 = .ok (.iload 4, 2) := by decide +kernel
theorem dX6_addEvent_4 : decode cX6_addEvent 4 = .ok (.invokestatic 58, 3) := by decide +kernel
theorem dX6_addEvent_7 : decode cX6_addEvent 7 = .ok (.ifCond .eq 19, 3) := by decide +kernel
theorem dX6_addEvent_10 : decode cX6_addEvent 10 = .ok (.aload_n 0, 1) := by decide +kernel
theorem dX6_addEvent_11 : decode cX6_addEvent 11 = .ok (.getfield 23, 3) := by decide +kernel
theorem dX6_addEvent_14 : decode cX6_addEvent 14 = .ok (.getfield 221, 3) := by decide +kernel
theorem dX6_addEvent_17 : decode cX6_addEvent 17 = .ok (.iload_n 1, 1) := by decide +kernel
theorem dX6_addEvent_18 : decode cX6_addEvent 18 = .ok (.iload_n 2, 1) := by decide +kernel
theorem dX6_addEvent_19 : decode cX6_addEvent 19 = .ok (.iconst 0, 1) := by decide +kernel
theorem dX6_addEvent_20 : decode cX6_addEvent 20 = .ok (.invokevirtual 66, 3) := by decide +kernel
theorem dX6_addEvent_23 : decode cX6_addEvent 23 = .ok (.goto 5, 3) := by decide +kernel
theorem dX6_addEvent_26 : decode cX6_addEvent 26 = .ok (.bipush (-2), 2) := by decide +kernel
theorem dX6_addEvent_28 : decode cX6_addEvent 28 = .ok (.ireturn, 1) := by decide +kernel
set_option maxRecDepth 20000 in
theorem ggX6_after_X6_isWithin : GoodIn wsX6_after wsX6_isWithin := goodIn_r _ [6] (by decide +kernel) (by decide +kernel)
set_option maxRecDepth 20000 in
theorem gX6_after_X6_isWithin : GoodIn wsX6_after (va_wsS RX6 58 yX6_isWithin wsX6_isWithin) := goodIn_app (goodIn_of _ (by decide +kernel)) ggX6_after_X6_isWithin
set_option maxRecDepth 20000 in
theorem ggX6_after_X3_copyFrom : GoodIn wsX6_after wsX3_copyFrom := goodIn_r _ [11, 12, 13, 14, 15, 16, 17, 18, 19, 20, 21, 22, 10, 23, 24, 25, 26, 27, 28, 29, 30, 31, 32, 33, 34, 35, 36, 37, 38, 39, 120, 121, 122, 123, 124, 125, 126, 127, 128, 129, 130, 131] (by decide +kernel) (by decide +kernel)
set_option maxRecDepth 20000 in
theorem gX6_after_X3_copyFrom : GoodIn wsX6_after (wsV RX6 228 RX3 yX3_copyFrom wsX3_copyFrom) := goodIn_app (goodIn_of _ (by decide +kernel)) ggX6_after_X3_copyFrom
set_option maxRecDepth 20000 in
theorem ggX6_after_X1_number : GoodIn wsX6_after wsX1_number := goodIn_r _ [43, 39, 34, 4, 5, 6, 130, 131] (by decide +kernel) (by decide +kernel)
set_option maxRecDepth 20000 in
theorem gX6_after_X1_number : GoodIn wsX6_after (wsV RX6 97 RX1 yX1_number wsX1_number) := goodIn_app (goodIn_of _ (by decide +kernel)) ggX6_after_X1_number
set_option maxRecDepth 20000 in
theorem ggX6_after_X3_happen : GoodIn wsX6_after wsX3_happen := goodIn_r _ [47, 13, 12, 14, 48, 49, 50, 51, 16, 52, 53, 54, 10, 55, 20, 21, 22, 23, 24, 25, 26, 27, 28, 56, 57, 58, 32, 59, 39, 34, 35, 36, 37, 38, 4, 5, 6, 120, 121, 122, 123, 124, 125, 126, 127, 128, 129, 130, 131] (by decide +kernel) (by decide +kernel)
set_option maxRecDepth 20000 in
theorem gX6_after_X3_happen : GoodIn wsX6_after (wsV RX6 232 RX3 yX3_happen wsX3_happen) := goodIn_app (goodIn_of _ (by decide +kernel)) ggX6_after_X3_happen
set_option maxRecDepth 20000 in
theorem ggX6_after_X3_markedInWindow : GoodIn wsX6_after wsX3_markedInWindow := goodIn_r _ [63, 64, 65, 66, 10, 67, 14, 15, 68, 69, 70, 71, 16, 72, 5, 73, 74, 75, 76, 3, 4, 6, 77, 41, 42, 32, 43, 39, 34, 78, 79, 80, 81, 82, 24, 12, 83, 84, 85, 86, 87, 88, 89, 90, 91, 92, 93, 94, 95, 96, 97, 98, 27, 99, 100, 101, 102, 103, 104, 105, 106, 107, 108, 109, 110, 111, 112, 120, 121, 122, 123, 124, 125, 126, 127, 128, 129, 130, 131, 132] (by decide +kernel) (by decide +kernel)
set_option maxRecDepth 20000 in
theorem gX6_after_X3_markedInWindow : GoodIn wsX6_after (wsV RX6 122 RX3 yX3_markedInWindow wsX3_markedInWindow) := goodIn_app (goodIn_of _ (by decide +kernel)) ggX6_after_X3_markedInWindow
theorem dX6_after_0 : decode cX6_after 0 = .ok (.iload_n 1, 1) := by decide +kernel
theorem dX6_after_1 : decode cX6_after 1 = .ok (.iconst 0, 1) := by decide +kernel
theorem dX6_after_2 : decode cX6_after 2 = .ok (.iconst 2, 1) := by decide +kernel
theorem dX6_after_3 : decode cX6_after 3 = .ok (.invokestatic 58, 3) := by decide +kernel
theorem dX6_after_6 : decode cX6_after 6 = .ok (.ifCond .ne 5, 3) := by decide +kernel
theorem dX6_after_9 : decode cX6_after 9 = .ok (.iconst (-1), 1) := by decide +kernel
theorem dX6_after_10 : decode cX6_after 10 = .ok (.ireturn, 1) := by decide +kernel
theorem dX6_after_11 : decode cX6_after 11 = .ok (.aload_n 0, 1) := by decide +kernel
theorem dX6_after_12 : decode cX6_after 12 = .ok (.getfield 30, 3) := by decide +kernel
theorem dX6_after_15 : decode cX6_after 15 = .ok (.aload_n 0, 1) := by decide +kernel
theorem dX6_after_16 : decode cX6_after 16 = .ok (.getfield 23, 3) := by decide +kernel
theorem dX6_after_19 : decode cX6_after 19 = .ok (.invokevirtual 228, 3) := by decide +kernel
theorem dX6_after_22 : decode cX6_after 22 = .ok (.iconst 0, 1) := by decide +kernel
theorem dX6_after_23 : decode cX6_after 23 = .ok (.istore_n 2, 1) := by decide +kernel
theorem dX6_after_24 : decode cX6_after 24 = .ok (.iload_n 2, 1) := by decide +kernel
theorem dX6_after_25 : decode cX6_after 25 = .ok (.aload_n 0, 1) := by decide +kernel
theorem dX6_after_26 : decode cX6_after 26 = .ok (.getfield 23, 3) := by decide +kernel
theorem dX6_after_29 : decode cX6_after 29 = .ok (.getfield 221, 3) := by decide +kernel
theorem dX6_after_32 : decode cX6_after 32 = .ok (.getfield 72, 3) := by decide +kernel
theorem dX6_after_35 : decode cX6_after 35 = .ok (.if_icmp .ge 40, 3) := by decide +kernel
theorem dX6_after_38 : decode cX6_after 38 = .ok (.aload_n 0, 1) := by decide +kernel
theorem dX6_after_39 : decode cX6_after 39 = .ok (.getfield 30, 3) := by decide +kernel
theorem dX6_after_42 : decode cX6_after 42 = .ok (.aload_n 0, 1) := by decide +kernel
theorem dX6_after_43 : decode cX6_after 43 = .ok (.getfield 23, 3) := by decide +kernel
theorem dX6_after_46 : decode cX6_after 46 = .ok (.getfield 221, 3) := by decide +kernel
theorem dX6_after_49 : decode cX6_after 49 = .ok (.iload_n 2, 1) := by decide +kernel
theorem dX6_after_50 : decode cX6_after 50 = .ok (.iconst 0, 1) := by decide +kernel
theorem dX6_after_51 : decode cX6_after 51 = .ok (.invokevirtual 97, 3) := by decide +kernel
theorem dX6_after_54 : decode cX6_after 54 = .ok (.aload_n 0, 1) := by decide +kernel
theorem dX6_after_55 : decode cX6_after 55 = .ok (.getfield 23, 3) := by decide +kernel
theorem dX6_after_58 : decode cX6_after 58 = .ok (.getfield 221, 3) := by decide +kernel
theorem dX6_after_61 : decode cX6_after 61 = .ok (.iload_n 2, 1) := by decide +kernel
theorem dX6_after_62 : decode cX6_after 62 = .ok (.iconst 1, 1) := by decide +kernel
theorem dX6_after_63 : decode cX6_after 63 = .ok (.invokevirtual 97, 3) := by decide +kernel
theorem dX6_after_66 : decode cX6_after 66 = .ok (.invokevirtual 232, 3) := by decide +kernel
theorem dX6_after_69 : decode cX6_after 69 = .ok (.iinc 2 1, 3) := by decide +kernel
theorem dX6_after_72 : decode cX6_after 72 = .ok (.goto (-48), 3) := by decide +kernel
theorem dX6_after_75 : decode cX6_after 75 = .ok (.iload_n 1, 1) := by decide +kernel
theorem dX6_after_76 : decode cX6_after 76 = .ok (.ifCond .ne 11, 3) := by decide +kernel
theorem dX6_after_79 : decode cX6_after 79 = .ok (.aload_n 0, 1) := by decide +kernel
theorem dX6_after_80 : decode cX6_after 80 = .ok (.getfield 30, 3) := by decide +kernel
theorem dX6_after_83 : decode cX6_after 83 = .ok (.invokevirtual 122, 3) := by decide +kernel
theorem dX6_after_86 : decode cX6_after 86 = .ok (.ireturn, 1) := by decide +kernel
theorem dX6_after_87 : decode cX6_after 87 = .ok (.iload_n 1, 1) := by decide +kernel
theorem dX6_after_88 : decode cX6_after 88 = .ok (.iconst 1, 1) := by decide +kernel
theorem dX6_after_89 : decode cX6_after 89 = .ok (.if_icmp .ne 13, 3) := by decide +kernel
theorem dX6_after_92 : decode cX6_after 92 = .ok (.aload_n 0, 1) := by decide +kernel
theorem dX6_after_93 : decode cX6_after 93 = .ok (.getfield 30, 3) := by decide +kernel
theorem dX6_after_96 : decode cX6_after 96 = .ok (.getfield 119, 3) := by decide +kernel
theorem dX6_after_99 : decode cX6_after 99 = .ok (.goto 13, 3) := by decide +kernel
theorem dX6_after_102 : decode cX6_after 102 = .ok (.aload_n 0, 1) := by decide +kernel
theorem dX6_after_103 : decode cX6_after 103 = .ok (.getfield 30, 3) := by decide +kernel
theorem dX6_after_106 : decode cX6_after 106 = .ok (.getfield 62, 3) := by decide +kernel
theorem dX6_after_109 : decode cX6_after 109 = .ok (.getfield 72, 3) := by decide +kernel
theorem dX6_after_112 : decode cX6_after 112 = .ok (.ireturn, 1) := by decide +kernel
set_option maxRecDepth 20000 in
theorem ggX6_book_X1_empty : GoodIn wsX6_book wsX1_empty := goodIn_r _ [6, 7, 37, 38] (by decide +kernel) (by decide +kernel)
set_option maxRecDepth 20000 in
theorem gX6_book_X1_empty : GoodIn wsX6_book (wsV RX6 75 RX1 yX1_empty wsX1_empty) := goodIn_app (goodIn_of _ (by decide +kernel)) ggX6_book_X1_empty
set_option maxRecDepth 20000 in
theorem ggX6_book_X6_isRow : GoodIn wsX6_book wsX6_isRow := goodIn_r _ [11, 12, 13, 10, 14] (by decide +kernel) (by decide +kernel)
set_option maxRecDepth 20000 in
theorem gX6_book_X6_isRow : GoodIn wsX6_book (va_wsS RX6 125 yX6_isRow wsX6_isRow) := goodIn_app (goodIn_of _ (by decide +kernel)) ggX6_book_X6_isRow
set_option maxRecDepth 20000 in
theorem ggX6_book_X6_isWithin : GoodIn wsX6_book wsX6_isWithin := goodIn_r _ [14] (by decide +kernel) (by decide +kernel)
set_option maxRecDepth 20000 in
theorem gX6_book_X6_isWithin : GoodIn wsX6_book (va_wsS RX6 58 yX6_isWithin wsX6_isWithin) := goodIn_app (goodIn_of _ (by decide +kernel)) ggX6_book_X6_isWithin
set_option maxRecDepth 20000 in
theorem ggX6_book_X1_add : GoodIn wsX6_book wsX1_add := goodIn_r _ [18, 7, 19, 37, 38] (by decide +kernel) (by decide +kernel)
set_option maxRecDepth 20000 in
theorem gX6_book_X1_add : GoodIn wsX6_book (wsV RX6 66 RX1 yX1_add wsX1_add) := goodIn_app (goodIn_of _ (by decide +kernel)) ggX6_book_X1_add
theorem dX6_book_0 : decode cX6_book 0 = .ok (.iload_n 1, 1) := by decide +kernel
theorem dX6_book_1 : decode cX6_book 1 = .ok (.iconst (-1), 1) := by decide +kernel
theorem dX6_book_2 : decode cX6_book 2 = .ok (.if_icmp .ne 15, 3) := by decide +kernel
theorem dX6_book_5 : decode cX6_book 5 = .ok (.aload_n 0, 1) := by decide +kernel
theorem dX6_book_6 : decode cX6_book 6 = .ok (.getfield 23, 3) := by decide +kernel
theorem dX6_book_9 : decode cX6_book 9 = .ok (.getfield 235, 3) := by decide +kernel
theorem dX6_book_12 : decode cX6_book 12 = .ok (.invokevirtual 75, 3) := by decide +kernel
theorem dX6_book_15 : decode cX6_book 15 = .ok (.iconst 0, 1) := by decide +kernel
theorem dX6_book_16 : decode cX6_book 16 = .ok (.ireturn, 1) := by decide +kernel
theorem dX6_book_17 : decode cX6_book 17 = .ok (.iload_n 1, 1) := by decide +kernel
theorem dX6_book_18 : decode cX6_book 18 = .ok (.invokestatic 125, 3) := by decide +kernel
theorem dX6_book_21 : decode cX6_book 21 = .ok (.ifCond .ne 5, 3) := by decide +kernel
theorem dX6_book_24 : decode cX6_book 24 = .ok (.iconst (-1), 1) := by decide +kernel
theorem dX6_book_25 : decode cX6_book 25 = .ok (.ireturn, 1) := by decide +kernel
theorem dX6_book_26 : decode cX6_book 26 = .ok (.iload_n 2, 1) := by decide +kernel
theorem dX6_book_27 : decode cX6_book 27 = .ok (.iconst 0, 1) := by decide +kernel
theorem dX6_book_28 : decode cX6_book 28 = .ok (.sipush 2400, 3) := by decide +kernel
theorem dX6_book_31 : decode cX6_book 31 = .ok (.invokestatic 58, 3) := by decide +kernel
theorem dX6_book_34 : decode cX6_book 34 = .ok (.ifCond .eq 19, 3) := by decide +kernel
theorem dX6_book_37 : decode cX6_book 37 = .ok (.aload_n 0, 1) := by decide +kernel
theorem dX6_book_38 : decode cX6_book 38 = .ok (.getfield 23, 3) := by decide +kernel
theorem dX6_book_41 : decode cX6_book 41 = .ok (.getfield 235, 3) := by decide +kernel
theorem dX6_book_44 : decode cX6_book 44 = .ok (.iload_n 1, 1) := by decide +kernel
theorem dX6_book_45 : decode cX6_book 45 = .ok (.iload_n 2, 1) := by decide +kernel
theorem dX6_book_46 : decode cX6_book 46 = .ok (.iconst 0, 1) := by decide +kernel
theorem dX6_book_47 : decode cX6_book 47 = .ok (.invokevirtual 66, 3) := by decide +kernel
theorem dX6_book_50 : decode cX6_book 50 = .ok (.goto 5, 3) := by decide +kernel
theorem dX6_book_53 : decode cX6_book 53 = .ok (.bipush (-2), 2) := by decide +kernel
theorem dX6_book_55 : decode cX6_book 55 = .ok (.ireturn, 1) := by decide +kernel
set_option maxRecDepth 20000 in
theorem ggX6_looked_X1_number : GoodIn wsX6_looked wsX1_number := goodIn_r _ [6, 7, 8, 9, 10, 11, 46, 47] (by decide +kernel) (by decide +kernel)
set_option maxRecDepth 20000 in
theorem gX6_looked_X1_number : GoodIn wsX6_looked (wsV RX6 97 RX1 yX1_number wsX1_number) := goodIn_app (goodIn_of _ (by decide +kernel)) ggX6_looked_X1_number
set_option maxRecDepth 20000 in
theorem ggX6_looked_X3_remainder : GoodIn wsX6_looked wsX3_remainder := goodIn_r _ [16, 17, 18, 19, 20, 21, 22, 23, 24, 25, 26, 27, 28, 36, 37, 38, 39, 40, 41, 42, 43, 44, 45, 48] (by decide +kernel) (by decide +kernel)
set_option maxRecDepth 20000 in
theorem gX6_looked_X3_remainder : GoodIn wsX6_looked (wsV RX6 129 RX3 yX3_remainder wsX3_remainder) := goodIn_app (goodIn_of _ (by decide +kernel)) ggX6_looked_X3_remainder
theorem dX6_looked_0 : decode cX6_looked 0 = .ok (.iconst 0, 1) := by decide +kernel
theorem dX6_looked_1 : decode cX6_looked 1 = .ok (.istore_n 1, 1) := by decide +kernel
theorem dX6_looked_2 : decode cX6_looked 2 = .ok (.iload_n 1, 1) := by decide +kernel
theorem dX6_looked_3 : decode cX6_looked 3 = .ok (.aload_n 0, 1) := by decide +kernel
theorem dX6_looked_4 : decode cX6_looked 4 = .ok (.getfield 23, 3) := by decide +kernel
theorem dX6_looked_7 : decode cX6_looked 7 = .ok (.getfield 235, 3) := by decide +kernel
theorem dX6_looked_10 : decode cX6_looked 10 = .ok (.getfield 72, 3) := by decide +kernel
theorem dX6_looked_13 : decode cX6_looked 13 = .ok (.if_icmp .ge 47, 3) := by decide +kernel
theorem dX6_looked_16 : decode cX6_looked 16 = .ok (.aload_n 0, 1) := by decide +kernel
theorem dX6_looked_17 : decode cX6_looked 17 = .ok (.getfield 23, 3) := by decide +kernel
theorem dX6_looked_20 : decode cX6_looked 20 = .ok (.aload_n 0, 1) := by decide +kernel
theorem dX6_looked_21 : decode cX6_looked 21 = .ok (.getfield 23, 3) := by decide +kernel
theorem dX6_looked_24 : decode cX6_looked 24 = .ok (.getfield 235, 3) := by decide +kernel
theorem dX6_looked_27 : decode cX6_looked 27 = .ok (.iload_n 1, 1) := by decide +kernel
theorem dX6_looked_28 : decode cX6_looked 28 = .ok (.iconst 0, 1) := by decide +kernel
theorem dX6_looked_29 : decode cX6_looked 29 = .ok (.invokevirtual 97, 3) := by decide +kernel
theorem dX6_looked_32 : decode cX6_looked 32 = .ok (.bipush 10, 2) := by decide +kernel
theorem dX6_looked_34 : decode cX6_looked 34 = .ok (.invokevirtual 129, 3) := by decide +kernel
theorem dX6_looked_37 : decode cX6_looked 37 = .ok (.aload_n 0, 1) := by decide +kernel
theorem dX6_looked_38 : decode cX6_looked 38 = .ok (.getfield 23, 3) := by decide +kernel
theorem dX6_looked_41 : decode cX6_looked 41 = .ok (.getfield 235, 3) := by decide +kernel
theorem dX6_looked_44 : decode cX6_looked 44 = .ok (.iload_n 1, 1) := by decide +kernel
theorem dX6_looked_45 : decode cX6_looked 45 = .ok (.iconst 1, 1) := by decide +kernel
theorem dX6_looked_46 : decode cX6_looked 46 = .ok (.invokevirtual 97, 3) := by decide +kernel
theorem dX6_looked_49 : decode cX6_looked 49 = .ok (.if_icmp .eq 5, 3) := by decide +kernel
theorem dX6_looked_52 : decode cX6_looked 52 = .ok (.iload_n 1, 1) := by decide +kernel
theorem dX6_looked_53 : decode cX6_looked 53 = .ok (.ireturn, 1) := by decide +kernel
theorem dX6_looked_54 : decode cX6_looked 54 = .ok (.iinc 1 1, 3) := by decide +kernel
theorem dX6_looked_57 : decode cX6_looked 57 = .ok (.goto (-55), 3) := by decide +kernel
theorem dX6_looked_60 : decode cX6_looked 60 = .ok (.bipush (-5), 2) := by decide +kernel
theorem dX6_looked_62 : decode cX6_looked 62 = .ok (.ireturn, 1) := by decide +kernel
set_option maxRecDepth 20000 in
theorem ggX6_judge_X6_isRow : GoodIn wsX6_judge wsX6_isRow := goodIn_r _ [6, 7, 8, 5, 9] (by decide +kernel) (by decide +kernel)
set_option maxRecDepth 20000 in
theorem gX6_judge_X6_isRow : GoodIn wsX6_judge (va_wsS RX6 125 yX6_isRow wsX6_isRow) := goodIn_app (goodIn_of _ (by decide +kernel)) ggX6_judge_X6_isRow
set_option maxRecDepth 20000 in
theorem ggX6_judge_X4_isThere : GoodIn wsX6_judge wsX4_isThere := goodIn_r _ [13, 8, 5, 9] (by decide +kernel) (by decide +kernel)
set_option maxRecDepth 20000 in
theorem gX6_judge_X4_isThere : GoodIn wsX6_judge (va_wsS RX6 238 yX4_isThere wsX4_isThere) := goodIn_app (goodIn_of _ (by decide +kernel)) ggX6_judge_X4_isThere
set_option maxRecDepth 20000 in
theorem ggX6_judge_X4_sortOf : GoodIn wsX6_judge wsX4_sortOf := goodIn_r _ [17, 18, 58, 59, 60] (by decide +kernel) (by decide +kernel)
set_option maxRecDepth 20000 in
theorem gX6_judge_X4_sortOf : GoodIn wsX6_judge (wsV RX6 241 RX4 yX4_sortOf wsX4_sortOf) := goodIn_app (goodIn_of _ (by decide +kernel)) ggX6_judge_X4_sortOf
set_option maxRecDepth 20000 in
theorem ggX6_judge_X4_lengthOf : GoodIn wsX6_judge wsX4_lengthOf := goodIn_r _ [22, 23, 58, 59, 60] (by decide +kernel) (by decide +kernel)
set_option maxRecDepth 20000 in
theorem gX6_judge_X4_lengthOf : GoodIn wsX6_judge (wsV RX6 244 RX4 yX4_lengthOf wsX4_lengthOf) := goodIn_app (goodIn_of _ (by decide +kernel)) ggX6_judge_X4_lengthOf
set_option maxRecDepth 20000 in
theorem ggX6_judge_X4_value : GoodIn wsX6_judge wsX4_value := goodIn_r _ [27, 28, 29, 30, 31, 12, 32, 33, 20, 21, 22, 23, 58, 59, 60] (by decide +kernel) (by decide +kernel)
set_option maxRecDepth 20000 in
theorem gX6_judge_X4_value : GoodIn wsX6_judge (wsV RX6 247 RX4 yX4_value wsX4_value) := goodIn_app (goodIn_of _ (by decide +kernel)) ggX6_judge_X4_value
set_option maxRecDepth 20000 in
theorem ggX6_judge_X3_remainder : GoodIn wsX6_judge wsX3_remainder := goodIn_r _ [38, 39, 40, 41, 42, 43, 44, 45, 46, 47, 48, 49, 50, 61, 62, 63, 64, 65, 66, 67, 68, 69, 70, 71] (by decide +kernel) (by decide +kernel)
set_option maxRecDepth 20000 in
theorem gX6_judge_X3_remainder : GoodIn wsX6_judge (wsV RX6 129 RX3 yX3_remainder wsX3_remainder) := goodIn_app (goodIn_of _ (by decide +kernel)) ggX6_judge_X3_remainder
theorem dX6_judge_0 : decode cX6_judge 0 = .ok (.iload_n 1, 1) := by decide +kernel
theorem dX6_judge_1 : decode cX6_judge 1 = .ok (.invokestatic 125, 3) := by decide +kernel
theorem dX6_judge_4 : decode cX6_judge 4 = .ok (.ifCond .eq 10, 3) := by decide +kernel
theorem dX6_judge_7 : decode cX6_judge 7 = .ok (.iload_n 2, 1) := by decide +kernel
theorem dX6_judge_8 : decode cX6_judge 8 = .ok (.invokestatic 238, 3) := by decide +kernel
theorem dX6_judge_11 : decode cX6_judge 11 = .ok (.ifCond .ne 5, 3) := by decide +kernel
theorem dX6_judge_14 : decode cX6_judge 14 = .ok (.iconst (-1), 1) := by decide +kernel
theorem dX6_judge_15 : decode cX6_judge 15 = .ok (.ireturn, 1) := by decide +kernel
theorem dX6_judge_16 : decode cX6_judge 16 = .ok (.aload_n 0, 1) := by decide +kernel
theorem dX6_judge_17 : decode cX6_judge 17 = .ok (.getfield 43, 3) := by decide +kernel
theorem dX6_judge_20 : decode cX6_judge 20 = .ok (.iload_n 2, 1) := by decide +kernel
theorem dX6_judge_21 : decode cX6_judge 21 = .ok (.invokevirtual 241, 3) := by decide +kernel
theorem dX6_judge_24 : decode cX6_judge 24 = .ok (.istore 4, 2) := by decide +kernel
theorem dX6_judge_26 : decode cX6_judge 26 = .ok (.iload 4, 2) := by decide +kernel
theorem dX6_judge_28 : decode cX6_judge 28 = .ok (.iconst (-1), 1) := by decide +kernel
theorem dX6_judge_29 : decode cX6_judge 29 = .ok (.if_icmp .ne 7, 3) := by decide +kernel
theorem dX6_judge_32 : decode cX6_judge 32 = .ok (.sipush 200, 3) := by decide +kernel
theorem dX6_judge_35 : decode cX6_judge 35 = .ok (.ireturn, 1) := by decide +kernel
theorem dX6_judge_36 : decode cX6_judge 36 = .ok (.iload 4, 2) := by decide +kernel
theorem dX6_judge_38 : decode cX6_judge 38 = .ok (.iconst 1, 1) := by decide +kernel
theorem dX6_judge_39 : decode cX6_judge 39 = .ok (.if_icmp .eq 6, 3) := by decide +kernel
theorem dX6_judge_42 : decode cX6_judge 42 = .ok (.bipush (-12), 2) := by decide +kernel
theorem dX6_judge_44 : decode cX6_judge 44 = .ok (.ireturn, 1) := by decide +kernel
theorem dX6_judge_45 : decode cX6_judge 45 = .ok (.iload_n 3, 1) := by decide +kernel
theorem dX6_judge_46 : decode cX6_judge 46 = .ok (.ifCond .ge 7, 3) := by decide +kernel
theorem dX6_judge_49 : decode cX6_judge 49 = .ok (.sipush 200, 3) := by decide +kernel
theorem dX6_judge_52 : decode cX6_judge 52 = .ok (.ireturn, 1) := by decide +kernel
theorem dX6_judge_53 : decode cX6_judge 53 = .ok (.aload_n 0, 1) := by decide +kernel
theorem dX6_judge_54 : decode cX6_judge 54 = .ok (.getfield 43, 3) := by decide +kernel
theorem dX6_judge_57 : decode cX6_judge 57 = .ok (.iload_n 2, 1) := by decide +kernel
theorem dX6_judge_58 : decode cX6_judge 58 = .ok (.invokevirtual 244, 3) := by decide +kernel
theorem dX6_judge_61 : decode cX6_judge 61 = .ok (.iload_n 3, 1) := by decide +kernel
theorem dX6_judge_62 : decode cX6_judge 62 = .ok (.isub, 1) := by decide +kernel
theorem dX6_judge_63 : decode cX6_judge 63 = .ok (.istore 5, 2) := by decide +kernel
theorem dX6_judge_65 : decode cX6_judge 65 = .ok (.iconst 0, 1) := by decide +kernel
theorem dX6_judge_66 : decode cX6_judge 66 = .ok (.istore 6, 2) := by decide +kernel
theorem dX6_judge_68 : decode cX6_judge 68 = .ok (.iload 6, 2) := by decide +kernel
theorem dX6_judge_70 : decode cX6_judge 70 = .ok (.iload_n 1, 1) := by decide +kernel
theorem dX6_judge_71 : decode cX6_judge 71 = .ok (.if_icmp .gt 53, 3) := by decide +kernel
theorem dX6_judge_74 : decode cX6_judge 74 = .ok (.iload 6, 2) := by decide +kernel
theorem dX6_judge_76 : decode cX6_judge 76 = .ok (.iload 5, 2) := by decide +kernel
theorem dX6_judge_78 : decode cX6_judge 78 = .ok (.if_icmp .lt 10, 3) := by decide +kernel
theorem dX6_judge_81 : decode cX6_judge 81 = .ok (.sipush 200, 3) := by decide +kernel
theorem dX6_judge_84 : decode cX6_judge 84 = .ok (.iload 6, 2) := by decide +kernel
theorem dX6_judge_86 : decode cX6_judge 86 = .ok (.iadd, 1) := by decide +kernel
theorem dX6_judge_87 : decode cX6_judge 87 = .ok (.ireturn, 1) := by decide +kernel
theorem dX6_judge_88 : decode cX6_judge 88 = .ok (.aload_n 0, 1) := by decide +kernel
theorem dX6_judge_89 : decode cX6_judge 89 = .ok (.getfield 43, 3) := by decide +kernel
theorem dX6_judge_92 : decode cX6_judge 92 = .ok (.iload_n 2, 1) := by decide +kernel
theorem dX6_judge_93 : decode cX6_judge 93 = .ok (.iload_n 3, 1) := by decide +kernel
theorem dX6_judge_94 : decode cX6_judge 94 = .ok (.iload 6, 2) := by decide +kernel
theorem dX6_judge_96 : decode cX6_judge 96 = .ok (.iadd, 1) := by decide +kernel
theorem dX6_judge_97 : decode cX6_judge 97 = .ok (.invokevirtual 247, 3) := by decide +kernel
theorem dX6_judge_100 : decode cX6_judge 100 = .ok (.aload_n 0, 1) := by decide +kernel
theorem dX6_judge_101 : decode cX6_judge 101 = .ok (.getfield 23, 3) := by decide +kernel
theorem dX6_judge_104 : decode cX6_judge 104 = .ok (.iload_n 1, 1) := by decide +kernel
theorem dX6_judge_105 : decode cX6_judge 105 = .ok (.iload 6, 2) := by decide +kernel
theorem dX6_judge_107 : decode cX6_judge 107 = .ok (.invokevirtual 129, 3) := by decide +kernel
theorem dX6_judge_110 : decode cX6_judge 110 = .ok (.i2l, 1) := by decide +kernel
theorem dX6_judge_111 : decode cX6_judge 111 = .ok (.lcmp, 1) := by decide +kernel
theorem dX6_judge_112 : decode cX6_judge 112 = .ok (.ifCond .eq 6, 3) := by decide +kernel
theorem dX6_judge_115 : decode cX6_judge 115 = .ok (.iload 6, 2) := by decide +kernel
theorem dX6_judge_117 : decode cX6_judge 117 = .ok (.ireturn, 1) := by decide +kernel
theorem dX6_judge_118 : decode cX6_judge 118 = .ok (.iinc 6 1, 3) := by decide +kernel
theorem dX6_judge_121 : decode cX6_judge 121 = .ok (.goto (-53), 3) := by decide +kernel
theorem dX6_judge_124 : decode cX6_judge 124 = .ok (.bipush (-5), 2) := by decide +kernel
theorem dX6_judge_126 : decode cX6_judge 126 = .ok (.ireturn, 1) := by decide +kernel
set_option maxRecDepth 20000 in
theorem ggX6_image_X3_copyFrom : GoodIn wsX6_image wsX3_copyFrom := goodIn_r _ [8, 9, 10, 11, 12, 13, 14, 15, 16, 17, 18, 19, 7, 20, 21, 22, 23, 24, 25, 26, 27, 28, 29, 30, 31, 32, 33, 34, 35, 36, 44, 45, 46, 47, 48, 49, 50, 51, 52, 53, 54, 55] (by decide +kernel) (by decide +kernel)
set_option maxRecDepth 20000 in
theorem gX6_image_X3_copyFrom : GoodIn wsX6_image (wsV RX6 228 RX3 yX3_copyFrom wsX3_copyFrom) := goodIn_app (goodIn_of _ (by decide +kernel)) ggX6_image_X3_copyFrom
theorem dX6_image_0 : decode cX6_image 0 = .ok (.aload_n 0, 1) := by decide +kernel
theorem dX6_image_1 : decode cX6_image 1 = .ok (.getfield 27, 3) := by decide +kernel
theorem dX6_image_4 : decode cX6_image 4 = .ok (.aload_n 0, 1) := by decide +kernel
theorem dX6_image_5 : decode cX6_image 5 = .ok (.getfield 23, 3) := by decide +kernel
theorem dX6_image_8 : decode cX6_image 8 = .ok (.invokevirtual 228, 3) := by decide +kernel
theorem dX6_image_11 : decode cX6_image 11 = .ok (.aload_n 0, 1) := by decide +kernel
theorem dX6_image_12 : decode cX6_image 12 = .ok (.iconst 1, 1) := by decide +kernel
theorem dX6_image_13 : decode cX6_image 13 = .ok (.putfield 251, 3) := by decide +kernel
theorem dX6_image_16 : decode cX6_image 16 = .ok (.aload_n 0, 1) := by decide +kernel
theorem dX6_image_17 : decode cX6_image 17 = .ok (.getfield 23, 3) := by decide +kernel
theorem dX6_image_20 : decode cX6_image 20 = .ok (.getfield 119, 3) := by decide +kernel
theorem dX6_image_23 : decode cX6_image 23 = .ok (.ireturn, 1) := by decide +kernel
set_option maxRecDepth 20000 in
theorem ggX6_undo_X3_copyFrom : GoodIn wsX6_undo wsX3_copyFrom := goodIn_r _ [8, 9, 10, 11, 12, 13, 14, 15, 16, 17, 18, 19, 7, 20, 21, 22, 23, 24, 25, 26, 27, 28, 29, 30, 31, 32, 33, 34, 35, 36, 44, 45, 46, 47, 48, 49, 50, 51, 52, 53, 54, 55] (by decide +kernel) (by decide +kernel)
set_option maxRecDepth 20000 in
theorem gX6_undo_X3_copyFrom : GoodIn wsX6_undo (wsV RX6 228 RX3 yX3_copyFrom wsX3_copyFrom) := goodIn_app (goodIn_of _ (by decide +kernel)) ggX6_undo_X3_copyFrom
theorem dX6_undo_0 : decode cX6_undo 0 = .ok (.aload_n 0, 1) := by decide +kernel
theorem dX6_undo_1 : decode cX6_undo 1 = .ok (.getfield 251, 3) := by decide +kernel
theorem dX6_undo_4 : decode cX6_undo 4 = .ok (.ifCond .ne 6, 3) := by decide +kernel
theorem dX6_undo_7 : decode cX6_undo 7 = .ok (.bipush (-3), 2) := by decide +kernel
theorem dX6_undo_9 : decode cX6_undo 9 = .ok (.ireturn, 1) := by decide +kernel
theorem dX6_undo_10 : decode cX6_undo 10 = .ok (.aload_n 0, 1) := by decide +kernel
theorem dX6_undo_11 : decode cX6_undo 11 = .ok (.getfield 23, 3) := by decide +kernel
theorem dX6_undo_14 : decode cX6_undo 14 = .ok (.aload_n 0, 1) := by decide +kernel
theorem dX6_undo_15 : decode cX6_undo 15 = .ok (.getfield 27, 3) := by decide +kernel
theorem dX6_undo_18 : decode cX6_undo 18 = .ok (.invokevirtual 228, 3) := by decide +kernel
theorem dX6_undo_21 : decode cX6_undo 21 = .ok (.aload_n 0, 1) := by decide +kernel
theorem dX6_undo_22 : decode cX6_undo 22 = .ok (.getfield 23, 3) := by decide +kernel
theorem dX6_undo_25 : decode cX6_undo 25 = .ok (.getfield 119, 3) := by decide +kernel
theorem dX6_undo_28 : decode cX6_undo 28 = .ok (.ireturn, 1) := by decide +kernel
theorem dX6_count_0 : decode cX6_count 0 = .ok (.iload_n 1, 1) := by decide +kernel
theorem dX6_count_1 : decode cX6_count 1 = .ok (.tableswitch 72 0 3 #[31, 42, 53, 64], 31) := by decide +kernel
theorem dX6_count_32 : decode cX6_count 32 = .ok (.aload_n 0, 1) := by decide +kernel
theorem dX6_count_33 : decode cX6_count 33 = .ok (.getfield 23, 3) := by decide +kernel
theorem dX6_count_36 : decode cX6_count 36 = .ok (.getfield 198, 3) := by decide +kernel
theorem dX6_count_39 : decode cX6_count 39 = .ok (.getfield 72, 3) := by decide +kernel
theorem dX6_count_42 : decode cX6_count 42 = .ok (.ireturn, 1) := by decide +kernel
theorem dX6_count_43 : decode cX6_count 43 = .ok (.aload_n 0, 1) := by decide +kernel
theorem dX6_count_44 : decode cX6_count 44 = .ok (.getfield 23, 3) := by decide +kernel
theorem dX6_count_47 : decode cX6_count 47 = .ok (.getfield 221, 3) := by decide +kernel
theorem dX6_count_50 : decode cX6_count 50 = .ok (.getfield 72, 3) := by decide +kernel
theorem dX6_count_53 : decode cX6_count 53 = .ok (.ireturn, 1) := by decide +kernel
theorem dX6_count_54 : decode cX6_count 54 = .ok (.aload_n 0, 1) := by decide +kernel
theorem dX6_count_55 : decode cX6_count 55 = .ok (.getfield 23, 3) := by decide +kernel
theorem dX6_count_58 : decode cX6_count 58 = .ok (.getfield 235, 3) := by decide +kernel
theorem dX6_count_61 : decode cX6_count 61 = .ok (.getfield 72, 3) := by decide +kernel
theorem dX6_count_64 : decode cX6_count 64 = .ok (.ireturn, 1) := by decide +kernel
theorem dX6_count_65 : decode cX6_count 65 = .ok (.aload_n 0, 1) := by decide +kernel
theorem dX6_count_66 : decode cX6_count 66 = .ok (.getfield 36, 3) := by decide +kernel
theorem dX6_count_69 : decode cX6_count 69 = .ok (.getfield 255, 3) := by decide +kernel
theorem dX6_count_72 : decode cX6_count 72 = .ok (.ireturn, 1) := by decide +kernel
theorem dX6_count_73 : decode cX6_count 73 = .ok (.bipush (-2), 2) := by decide +kernel
theorem dX6_count_75 : decode cX6_count 75 = .ok (.ireturn, 1) := by decide +kernel
set_option maxRecDepth 20000 in
theorem ggX6_tape_X4_isThere : GoodIn wsX6_tape wsX4_isThere := goodIn_r _ [5, 6, 7, 8] (by decide +kernel) (by decide +kernel)
set_option maxRecDepth 20000 in
theorem gX6_tape_X4_isThere : GoodIn wsX6_tape (va_wsS RX6 238 yX4_isThere wsX4_isThere) := goodIn_app (goodIn_of _ (by decide +kernel)) ggX6_tape_X4_isThere
set_option maxRecDepth 20000 in
theorem ggX6_tape_X4_become : GoodIn wsX6_tape wsX4_become := goodIn_r _ [12, 13, 14, 15, 16, 17, 18, 19, 20, 21, 22, 23, 24, 4, 25, 26, 27, 28, 29, 30, 31, 32, 33, 34, 35, 36, 37, 38, 39, 40, 41, 50, 51, 52] (by decide +kernel) (by decide +kernel)
set_option maxRecDepth 20000 in
theorem gX6_tape_X4_become : GoodIn wsX6_tape (wsV RX6 258 RX4 yX4_become wsX4_become) := goodIn_app (goodIn_of _ (by decide +kernel)) ggX6_tape_X4_become
set_option maxRecDepth 20000 in
theorem ggX6_tape_X6_isWithin : GoodIn wsX6_tape wsX6_isWithin := goodIn_r _ [8] (by decide +kernel) (by decide +kernel)
set_option maxRecDepth 20000 in
theorem gX6_tape_X6_isWithin : GoodIn wsX6_tape (va_wsS RX6 58 yX6_isWithin wsX6_isWithin) := goodIn_app (goodIn_of _ (by decide +kernel)) ggX6_tape_X6_isWithin
theorem dX6_tape_0 : decode cX6_tape 0 = .ok (.iload_n 1, 1) := by decide +kernel
theorem dX6_tape_1 : decode cX6_tape 1 = .ok (.invokestatic 238, 3) := by decide +kernel
theorem dX6_tape_4 : decode cX6_tape 4 = .ok (.ifCond .ne 5, 3) := by decide +kernel
theorem dX6_tape_7 : decode cX6_tape 7 = .ok (.iconst (-1), 1) := by decide +kernel
theorem dX6_tape_8 : decode cX6_tape 8 = .ok (.ireturn, 1) := by decide +kernel
theorem dX6_tape_9 : decode cX6_tape 9 = .ok (.iload_n 2, 1) := by decide +kernel
theorem dX6_tape_10 : decode cX6_tape 10 = .ok (.iconst (-1), 1) := by decide +kernel
theorem dX6_tape_11 : decode cX6_tape 11 = .ok (.if_icmp .ne 15, 3) := by decide +kernel
theorem dX6_tape_14 : decode cX6_tape 14 = .ok (.aload_n 0, 1) := by decide +kernel
theorem dX6_tape_15 : decode cX6_tape 15 = .ok (.getfield 43, 3) := by decide +kernel
theorem dX6_tape_18 : decode cX6_tape 18 = .ok (.iload_n 1, 1) := by decide +kernel
theorem dX6_tape_19 : decode cX6_tape 19 = .ok (.iload_n 2, 1) := by decide +kernel
theorem dX6_tape_20 : decode cX6_tape 20 = .ok (.iconst 0, 1) := by decide +kernel
theorem dX6_tape_21 : decode cX6_tape 21 = .ok (.invokevirtual 258, 3) := by decide +kernel
theorem dX6_tape_24 : decode cX6_tape 24 = .ok (.iconst 1, 1) := by decide +kernel
theorem dX6_tape_25 : decode cX6_tape 25 = .ok (.ireturn, 1) := by decide +kernel
theorem dX6_tape_26 : decode cX6_tape 26 = .ok (.iload_n 2, 1) := by decide +kernel
theorem dX6_tape_27 : decode cX6_tape 27 = .ok (.iconst 0, 1) := by decide +kernel
theorem dX6_tape_28 : decode cX6_tape 28 = .ok (.iconst 4, 1) := by decide +kernel
theorem dX6_tape_29 : decode cX6_tape 29 = .ok (.invokestatic 58, 3) := by decide +kernel
theorem dX6_tape_32 : decode cX6_tape 32 = .ok (.ifCond .eq 9, 3) := by decide +kernel
theorem dX6_tape_35 : decode cX6_tape 35 = .ok (.iload_n 3, 1) := by decide +kernel
theorem dX6_tape_36 : decode cX6_tape 36 = .ok (.bipush 60, 2) := by decide +kernel
theorem dX6_tape_38 : decode cX6_tape 38 = .ok (.if_icmp .le 6, 3) := by decide +kernel
theorem dX6_tape_41 : decode cX6_tape 41 = .ok (.bipush (-2), 2) := by decide +kernel
theorem dX6_tape_43 : decode cX6_tape 43 = .ok (.ireturn, 1) := by decide +kernel
theorem dX6_tape_44 : decode cX6_tape 44 = .ok (.iload_n 3, 1) := by decide +kernel
theorem dX6_tape_45 : decode cX6_tape 45 = .ok (.ifCond .ge 6, 3) := by decide +kernel
theorem dX6_tape_48 : decode cX6_tape 48 = .ok (.bipush (-14), 2) := by decide +kernel
theorem dX6_tape_50 : decode cX6_tape 50 = .ok (.ireturn, 1) := by decide +kernel
theorem dX6_tape_51 : decode cX6_tape 51 = .ok (.aload_n 0, 1) := by decide +kernel
theorem dX6_tape_52 : decode cX6_tape 52 = .ok (.getfield 43, 3) := by decide +kernel
theorem dX6_tape_55 : decode cX6_tape 55 = .ok (.iload_n 1, 1) := by decide +kernel
theorem dX6_tape_56 : decode cX6_tape 56 = .ok (.iload_n 2, 1) := by decide +kernel
theorem dX6_tape_57 : decode cX6_tape 57 = .ok (.iload_n 3, 1) := by decide +kernel
theorem dX6_tape_58 : decode cX6_tape 58 = .ok (.invokevirtual 258, 3) := by decide +kernel
theorem dX6_tape_61 : decode cX6_tape 61 = .ok (.iconst 1, 1) := by decide +kernel
theorem dX6_tape_62 : decode cX6_tape 62 = .ok (.ireturn, 1) := by decide +kernel
set_option maxRecDepth 20000 in
theorem ggX6_item_X4_isThere : GoodIn wsX6_item wsX4_isThere := goodIn_r _ [5, 6, 7, 8] (by decide +kernel) (by decide +kernel)
set_option maxRecDepth 20000 in
theorem gX6_item_X4_isThere : GoodIn wsX6_item (va_wsS RX6 238 yX4_isThere wsX4_isThere) := goodIn_app (goodIn_of _ (by decide +kernel)) ggX6_item_X4_isThere
set_option maxRecDepth 20000 in
theorem ggX6_item_X4_sortOf : GoodIn wsX6_item wsX4_sortOf := goodIn_r _ [12, 13, 41, 42, 43] (by decide +kernel) (by decide +kernel)
set_option maxRecDepth 20000 in
theorem gX6_item_X4_sortOf : GoodIn wsX6_item (wsV RX6 241 RX4 yX4_sortOf wsX4_sortOf) := goodIn_app (goodIn_of _ (by decide +kernel)) ggX6_item_X4_sortOf
set_option maxRecDepth 20000 in
theorem ggX6_item_X4_lengthOf : GoodIn wsX6_item wsX4_lengthOf := goodIn_r _ [17, 18, 41, 42, 43] (by decide +kernel) (by decide +kernel)
set_option maxRecDepth 20000 in
theorem gX6_item_X4_lengthOf : GoodIn wsX6_item (wsV RX6 244 RX4 yX4_lengthOf wsX4_lengthOf) := goodIn_app (goodIn_of _ (by decide +kernel)) ggX6_item_X4_lengthOf
set_option maxRecDepth 20000 in
theorem ggX6_item_X6_isWithin : GoodIn wsX6_item wsX6_isWithin := goodIn_r _ [8] (by decide +kernel) (by decide +kernel)
set_option maxRecDepth 20000 in
theorem gX6_item_X6_isWithin : GoodIn wsX6_item (va_wsS RX6 58 yX6_isWithin wsX6_isWithin) := goodIn_app (goodIn_of _ (by decide +kernel)) ggX6_item_X6_isWithin
set_option maxRecDepth 20000 in
theorem ggX6_item_X4_put : GoodIn wsX6_item wsX4_put := goodIn_r _ [23, 24, 25, 26, 27, 4, 28, 29, 15, 16, 17, 18, 30, 10, 11, 12, 13, 31, 32, 33, 41, 42, 43] (by decide +kernel) (by decide +kernel)
set_option maxRecDepth 20000 in
theorem gX6_item_X4_put : GoodIn wsX6_item (wsV RX6 261 RX4 yX4_put wsX4_put) := goodIn_app (goodIn_of _ (by decide +kernel)) ggX6_item_X4_put
theorem dX6_item_0 : decode cX6_item 0 = .ok (.iload_n 1, 1) := by decide +kernel
theorem dX6_item_1 : decode cX6_item 1 = .ok (.invokestatic 238, 3) := by decide +kernel
theorem dX6_item_4 : decode cX6_item 4 = .ok (.ifCond .ne 5, 3) := by decide +kernel
theorem dX6_item_7 : decode cX6_item 7 = .ok (.iconst (-1), 1) := by decide +kernel
theorem dX6_item_8 : decode cX6_item 8 = .ok (.ireturn, 1) := by decide +kernel
theorem dX6_item_9 : decode cX6_item 9 = .ok (.aload_n 0, 1) := by decide +kernel
theorem dX6_item_10 : decode cX6_item 10 = .ok (.getfield 43, 3) := by decide +kernel
theorem dX6_item_13 : decode cX6_item 13 = .ok (.iload_n 1, 1) := by decide +kernel
theorem dX6_item_14 : decode cX6_item 14 = .ok (.invokevirtual 241, 3) := by decide +kernel
theorem dX6_item_17 : decode cX6_item 17 = .ok (.iconst (-1), 1) := by decide +kernel
theorem dX6_item_18 : decode cX6_item 18 = .ok (.if_icmp .ne 6, 3) := by decide +kernel
theorem dX6_item_21 : decode cX6_item 21 = .ok (.bipush (-11), 2) := by decide +kernel
theorem dX6_item_23 : decode cX6_item 23 = .ok (.ireturn, 1) := by decide +kernel
theorem dX6_item_24 : decode cX6_item 24 = .ok (.iload_n 2, 1) := by decide +kernel
theorem dX6_item_25 : decode cX6_item 25 = .ok (.iconst 0, 1) := by decide +kernel
theorem dX6_item_26 : decode cX6_item 26 = .ok (.aload_n 0, 1) := by decide +kernel
theorem dX6_item_27 : decode cX6_item 27 = .ok (.getfield 43, 3) := by decide +kernel
theorem dX6_item_30 : decode cX6_item 30 = .ok (.iload_n 1, 1) := by decide +kernel
theorem dX6_item_31 : decode cX6_item 31 = .ok (.invokevirtual 244, 3) := by decide +kernel
theorem dX6_item_34 : decode cX6_item 34 = .ok (.iconst 1, 1) := by decide +kernel
theorem dX6_item_35 : decode cX6_item 35 = .ok (.isub, 1) := by decide +kernel
theorem dX6_item_36 : decode cX6_item 36 = .ok (.invokestatic 58, 3) := by decide +kernel
theorem dX6_item_39 : decode cX6_item 39 = .ok (.ifCond .ne 6, 3) := by decide +kernel
theorem dX6_item_42 : decode cX6_item 42 = .ok (.bipush (-13), 2) := by decide +kernel
theorem dX6_item_44 : decode cX6_item 44 = .ok (.ireturn, 1) := by decide +kernel
theorem dX6_item_45 : decode cX6_item 45 = .ok (.aload_n 0, 1) := by decide +kernel
theorem dX6_item_46 : decode cX6_item 46 = .ok (.getfield 43, 3) := by decide +kernel
theorem dX6_item_49 : decode cX6_item 49 = .ok (.iload_n 1, 1) := by decide +kernel
theorem dX6_item_50 : decode cX6_item 50 = .ok (.iload_n 2, 1) := by decide +kernel
theorem dX6_item_51 : decode cX6_item 51 = .ok (.lload_n 3, 1) := by decide +kernel
theorem dX6_item_52 : decode cX6_item 52 = .ok (.invokevirtual 261, 3) := by decide +kernel
theorem dX6_item_55 : decode cX6_item 55 = .ok (.iconst 1, 1) := by decide +kernel
theorem dX6_item_56 : decode cX6_item 56 = .ok (.ireturn, 1) := by decide +kernel
theorem dX6_isWithin_0 : decode cX6_isWithin 0 = .ok (.iload_n 0, 1) := by decide +kernel
theorem dX6_isWithin_1 : decode cX6_isWithin 1 = .ok (.iload_n 1, 1) := by decide +kernel
theorem dX6_isWithin_2 : decode cX6_isWithin 2 = .ok (.if_icmp .lt 12, 3) := by decide +kernel
theorem dX6_isWithin_5 : decode cX6_isWithin 5 = .ok (.iload_n 0, 1) := by decide +kernel
theorem dX6_isWithin_6 : decode cX6_isWithin 6 = .ok (.iload_n 2, 1) := by decide +kernel
theorem dX6_isWithin_7 : decode cX6_isWithin 7 = .ok (.if_icmp .gt 7, 3) := by decide +kernel
theorem dX6_isWithin_10 : decode cX6_isWithin 10 = .ok (.iconst 1, 1) := by decide +kernel
theorem dX6_isWithin_11 : decode cX6_isWithin 11 = .ok (.goto 4, 3) := by decide +kernel
theorem dX6_isWithin_14 : decode cX6_isWithin 14 = .ok (.iconst 0, 1) := by decide +kernel
theorem dX6_isWithin_15 : decode cX6_isWithin 15 = .ok (.ireturn, 1) := by decide +kernel
set_option maxRecDepth 20000 in
theorem ggX6_isRow_X6_isWithin : GoodIn wsX6_isRow wsX6_isWithin := goodIn_r _ [4] (by decide +kernel) (by decide +kernel)
set_option maxRecDepth 20000 in
theorem gX6_isRow_X6_isWithin : GoodIn wsX6_isRow (va_wsS RX6 58 yX6_isWithin wsX6_isWithin) := goodIn_app (goodIn_of _ (by decide +kernel)) ggX6_isRow_X6_isWithin
theorem dX6_isRow_0 : decode cX6_isRow 0 = .ok (.iload_n 0, 1) := by decide +kernel
theorem dX6_isRow_1 : decode cX6_isRow 1 = .ok (.iconst 0, 1) := by decide +kernel
theorem dX6_isRow_2 : decode cX6_isRow 2 = .ok (.bipush 127, 2) := by decide +kernel
theorem dX6_isRow_4 : decode cX6_isRow 4 = .ok (.invokestatic 58, 3) := by decide +kernel
theorem dX6_isRow_7 : decode cX6_isRow 7 = .ok (.ireturn, 1) := by decide +kernel
set_option maxRecDepth 20000 in
theorem ggX6_isPlace_X6_isRow : GoodIn wsX6_isPlace wsX6_isRow := goodIn_r _ [4, 5, 6, 3, 7] (by decide +kernel) (by decide +kernel)
set_option maxRecDepth 20000 in
theorem gX6_isPlace_X6_isRow : GoodIn wsX6_isPlace (va_wsS RX6 125 yX6_isRow wsX6_isRow) := goodIn_app (goodIn_of _ (by decide +kernel)) ggX6_isPlace_X6_isRow
set_option maxRecDepth 20000 in
theorem ggX6_isPlace_X6_isWithin : GoodIn wsX6_isPlace wsX6_isWithin := goodIn_r _ [7] (by decide +kernel) (by decide +kernel)
set_option maxRecDepth 20000 in
theorem gX6_isPlace_X6_isWithin : GoodIn wsX6_isPlace (va_wsS RX6 58 yX6_isWithin wsX6_isWithin) := goodIn_app (goodIn_of _ (by decide +kernel)) ggX6_isPlace_X6_isWithin
theorem dX6_isPlace_0 : decode cX6_isPlace 0 = .ok (.iload_n 0, 1) := by decide +kernel
theorem dX6_isPlace_1 : decode cX6_isPlace 1 = .ok (.invokestatic 125, 3) := by decide +kernel
theorem dX6_isPlace_4 : decode cX6_isPlace 4 = .ok (.ifCond .eq 16, 3) := by decide +kernel
theorem dX6_isPlace_7 : decode cX6_isPlace 7 = .ok (.iload_n 1, 1) := by decide +kernel
theorem dX6_isPlace_8 : decode cX6_isPlace 8 = .ok (.iconst 0, 1) := by decide +kernel
theorem dX6_isPlace_9 : decode cX6_isPlace 9 = .ok (.iload_n 0, 1) := by decide +kernel
theorem dX6_isPlace_10 : decode cX6_isPlace 10 = .ok (.invokestatic 58, 3) := by decide +kernel
theorem dX6_isPlace_13 : decode cX6_isPlace 13 = .ok (.ifCond .eq 7, 3) := by decide +kernel
theorem dX6_isPlace_16 : decode cX6_isPlace 16 = .ok (.iconst 1, 1) := by decide +kernel
theorem dX6_isPlace_17 : decode cX6_isPlace 17 = .ok (.goto 4, 3) := by decide +kernel
theorem dX6_isPlace_20 : decode cX6_isPlace 20 = .ok (.iconst 0, 1) := by decide +kernel
theorem dX6_isPlace_21 : decode cX6_isPlace 21 = .ok (.ireturn, 1) := by decide +kernel
theorem dJ6_bitCount_0f7a4_0 : decode cJ6_bitCount_0f7a4 0 = .ok (.iload_n 0, 1) := by decide +kernel
theorem dJ6_bitCount_0f7a4_1 : decode cJ6_bitCount_0f7a4 1 = .ok (.iload_n 0, 1) := by decide +kernel
theorem dJ6_bitCount_0f7a4_2 : decode cJ6_bitCount_0f7a4 2 = .ok (.iconst 1, 1) := by decide +kernel
theorem dJ6_bitCount_0f7a4_3 : decode cJ6_bitCount_0f7a4 3 = .ok (.iushr, 1) := by decide +kernel
theorem dJ6_bitCount_0f7a4_4 : decode cJ6_bitCount_0f7a4 4 = .ok (.ldc_w 265, 3) := by decide +kernel
theorem dJ6_bitCount_0f7a4_7 : decode cJ6_bitCount_0f7a4 7 = .ok (.iand, 1) := by decide +kernel
theorem dJ6_bitCount_0f7a4_8 : decode cJ6_bitCount_0f7a4 8 = .ok (.isub, 1) := by decide +kernel
theorem dJ6_bitCount_0f7a4_9 : decode cJ6_bitCount_0f7a4 9 = .ok (.istore_n 0, 1) := by decide +kernel
theorem dJ6_bitCount_0f7a4_10 : decode cJ6_bitCount_0f7a4 10 = .ok (.iload_n 0, 1) := by decide +kernel
theorem dJ6_bitCount_0f7a4_11 : decode cJ6_bitCount_0f7a4 11 = .ok (.ldc_w 266, 3) := by decide +kernel
theorem dJ6_bitCount_0f7a4_14 : decode cJ6_bitCount_0f7a4 14 = .ok (.iand, 1) := by decide +kernel
theorem dJ6_bitCount_0f7a4_15 : decode cJ6_bitCount_0f7a4 15 = .ok (.iload_n 0, 1) := by decide +kernel
theorem dJ6_bitCount_0f7a4_16 : decode cJ6_bitCount_0f7a4 16 = .ok (.iconst 2, 1) := by decide +kernel
theorem dJ6_bitCount_0f7a4_17 : decode cJ6_bitCount_0f7a4 17 = .ok (.iushr, 1) := by decide +kernel
theorem dJ6_bitCount_0f7a4_18 : decode cJ6_bitCount_0f7a4 18 = .ok (.ldc_w 266, 3) := by decide +kernel
theorem dJ6_bitCount_0f7a4_21 : decode cJ6_bitCount_0f7a4 21 = .ok (.iand, 1) := by decide +kernel
theorem dJ6_bitCount_0f7a4_22 : decode cJ6_bitCount_0f7a4 22 = .ok (.iadd, 1) := by decide +kernel
theorem dJ6_bitCount_0f7a4_23 : decode cJ6_bitCount_0f7a4 23 = .ok (.istore_n 0, 1) := by decide +kernel
theorem dJ6_bitCount_0f7a4_24 : decode cJ6_bitCount_0f7a4 24 = .ok (.iload_n 0, 1) := by decide +kernel
theorem dJ6_bitCount_0f7a4_25 : decode cJ6_bitCount_0f7a4 25 = .ok (.iload_n 0, 1) := by decide +kernel
theorem dJ6_bitCount_0f7a4_26 : decode cJ6_bitCount_0f7a4 26 = .ok (.iconst 4, 1) := by decide +kernel
theorem dJ6_bitCount_0f7a4_27 : decode cJ6_bitCount_0f7a4 27 = .ok (.iushr, 1) := by decide +kernel
theorem dJ6_bitCount_0f7a4_28 : decode cJ6_bitCount_0f7a4 28 = .ok (.iadd, 1) := by decide +kernel
theorem dJ6_bitCount_0f7a4_29 : decode cJ6_bitCount_0f7a4 29 = .ok (.ldc_w 267, 3) := by decide +kernel
theorem dJ6_bitCount_0f7a4_32 : decode cJ6_bitCount_0f7a4 32 = .ok (.iand, 1) := by decide +kernel
theorem dJ6_bitCount_0f7a4_33 : decode cJ6_bitCount_0f7a4 33 = .ok (.istore_n 0, 1) := by decide +kernel
theorem dJ6_bitCount_0f7a4_34 : decode cJ6_bitCount_0f7a4 34 = .ok (.iload_n 0, 1) := by decide +kernel
theorem dJ6_bitCount_0f7a4_35 : decode cJ6_bitCount_0f7a4 35 = .ok (.iload_n 0, 1) := by decide +kernel
theorem dJ6_bitCount_0f7a4_36 : decode cJ6_bitCount_0f7a4 36 = .ok (.bipush 8, 2) := by decide +kernel
theorem dJ6_bitCount_0f7a4_38 : decode cJ6_bitCount_0f7a4 38 = .ok (.iushr, 1) := by decide +kernel
theorem dJ6_bitCount_0f7a4_39 : decode cJ6_bitCount_0f7a4 39 = .ok (.iadd, 1) := by decide +kernel
theorem dJ6_bitCount_0f7a4_40 : decode cJ6_bitCount_0f7a4 40 = .ok (.istore_n 0, 1) := by decide +kernel
theorem dJ6_bitCount_0f7a4_41 : decode cJ6_bitCount_0f7a4 41 = .ok (.iload_n 0, 1) := by decide +kernel
theorem dJ6_bitCount_0f7a4_42 : decode cJ6_bitCount_0f7a4 42 = .ok (.iload_n 0, 1) := by decide +kernel
theorem dJ6_bitCount_0f7a4_43 : decode cJ6_bitCount_0f7a4 43 = .ok (.bipush 16, 2) := by decide +kernel
theorem dJ6_bitCount_0f7a4_45 : decode cJ6_bitCount_0f7a4 45 = .ok (.iushr, 1) := by decide +kernel
theorem dJ6_bitCount_0f7a4_46 : decode cJ6_bitCount_0f7a4 46 = .ok (.iadd, 1) := by decide +kernel
theorem dJ6_bitCount_0f7a4_47 : decode cJ6_bitCount_0f7a4 47 = .ok (.istore_n 0, 1) := by decide +kernel
theorem dJ6_bitCount_0f7a4_48 : decode cJ6_bitCount_0f7a4 48 = .ok (.iload_n 0, 1) := by decide +kernel
theorem dJ6_bitCount_0f7a4_49 : decode cJ6_bitCount_0f7a4 49 = .ok (.bipush 63, 2) := by decide +kernel
theorem dJ6_bitCount_0f7a4_51 : decode cJ6_bitCount_0f7a4 51 = .ok (.iand, 1) := by decide +kernel
theorem dJ6_bitCount_0f7a4_52 : decode cJ6_bitCount_0f7a4 52 = .ok (.ireturn, 1) := by decide +kernel
theorem dJ9_max_7cf53_0 : decode cJ9_max_7cf53 0 = .ok (.iload_n 0, 1) := by decide +kernel
theorem dJ9_max_7cf53_1 : decode cJ9_max_7cf53 1 = .ok (.iload_n 1, 1) := by decide +kernel
theorem dJ9_max_7cf53_2 : decode cJ9_max_7cf53 2 = .ok (.if_icmp .lt 7, 3) := by decide +kernel
theorem dJ9_max_7cf53_5 : decode cJ9_max_7cf53 5 = .ok (.iload_n 0, 1) := by decide +kernel
theorem dJ9_max_7cf53_6 : decode cJ9_max_7cf53 6 = .ok (.goto 4, 3) := by decide +kernel
theorem dJ9_max_7cf53_9 : decode cJ9_max_7cf53 9 = .ok (.iload_n 1, 1) := by decide +kernel
theorem dJ9_max_7cf53_10 : decode cJ9_max_7cf53 10 = .ok (.ireturn, 1) := by decide +kernel
theorem dJ9_min_7cf53_0 : decode cJ9_min_7cf53 0 = .ok (.iload_n 0, 1) := by decide +kernel
theorem dJ9_min_7cf53_1 : decode cJ9_min_7cf53 1 = .ok (.iload_n 1, 1) := by decide +kernel
theorem dJ9_min_7cf53_2 : decode cJ9_min_7cf53 2 = .ok (.if_icmp .gt 7, 3) := by decide +kernel
theorem dJ9_min_7cf53_5 : decode cJ9_min_7cf53 5 = .ok (.iload_n 0, 1) := by decide +kernel
theorem dJ9_min_7cf53_6 : decode cJ9_min_7cf53 6 = .ok (.goto 4, 3) := by decide +kernel
theorem dJ9_min_7cf53_9 : decode cJ9_min_7cf53 9 = .ok (.iload_n 1, 1) := by decide +kernel
theorem dJ9_min_7cf53_10 : decode cJ9_min_7cf53 10 = .ok (.ireturn, 1) := by decide +kernel
