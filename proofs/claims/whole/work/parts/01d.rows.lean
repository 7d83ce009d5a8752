set_option maxRecDepth 20000 in
theorem ggX6_init_X5_init : GoodIn wsX6_init wsX5_init := goodIn_r _ [24, 25, 2, 3, 26, 27, 28, 29, 30, 31, 6, 32, 74] (by decide +kernel) (by decide +kernel)
set_option maxRecDepth 20000 in
theorem gX6_init_X5_init : GoodIn wsX6_init (wsX5_init) := ggX6_init_X5_init
set_option maxRecDepth 20000 in
theorem ggX6_init_X3_init : GoodIn wsX6_init wsX3_init := goodIn_r _ [35, 36, 2, 3, 37, 38, 39, 40, 41, 42, 43, 44, 45, 46, 47, 48, 49, 50, 51, 52, 53, 54, 55, 56, 57, 58, 26, 59, 99, 100, 82, 83, 84, 85, 86, 87, 88, 89, 90, 91] (by decide +kernel) (by decide +kernel)
set_option maxRecDepth 20000 in
theorem gX6_init_X3_init : GoodIn wsX6_init (wsX3_init) := ggX6_init_X3_init
set_option maxRecDepth 20000 in
theorem ggX6_init_X2_init : GoodIn wsX6_init wsX2_init := goodIn_r _ [61, 62, 2, 3, 26, 63, 64, 38, 39, 65, 66, 49, 50, 51, 52, 53, 54, 55, 56, 57, 58, 59, 92, 93, 94, 95, 99, 100] (by decide +kernel) (by decide +kernel)
set_option maxRecDepth 20000 in
theorem gX6_init_X2_init_n35 : GoodIn wsX6_init (wsX2_init) := ggX6_init_X2_init
set_option maxRecDepth 20000 in
theorem ggX6_init_X4_init : GoodIn wsX6_init wsX4_init := goodIn_r _ [68, 69, 2, 3, 26, 70, 71, 72, 73, 96, 97, 98] (by decide +kernel) (by decide +kernel)
set_option maxRecDepth 20000 in
theorem gX6_init_X4_init_n42 : GoodIn wsX6_init (wsX4_init) := ggX6_init_X4_init
theorem dX6_init_0 : decode cX6_init 0 = .ok (.aload_n 0, 1) := by decide +kernel
theorem dX6_init_1 : decode cX6_init 1 = .ok (.invokespecial 3, 3) := by decide +kernel
theorem dX6_init_4 : decode cX6_init 4 = .ok (.aload_n 0, 1) := by decide +kernel
theorem dX6_init_5 : decode cX6_init 5 = .ok (.new 9, 3) := by decide +kernel
theorem dX6_init_8 : decode cX6_init 8 = .ok (.dup, 1) := by decide +kernel
theorem dX6_init_9 : decode cX6_init 9 = .ok (.invokespecial 11, 3) := by decide +kernel
theorem dX6_init_12 : decode cX6_init 12 = .ok (.putfield 12, 3) := by decide +kernel
theorem dX6_init_15 : decode cX6_init 15 = .ok (.aload_n 0, 1) := by decide +kernel
theorem dX6_init_16 : decode cX6_init 16 = .ok (.new 18, 3) := by decide +kernel
theorem dX6_init_19 : decode cX6_init 19 = .ok (.dup, 1) := by decide +kernel
theorem dX6_init_20 : decode cX6_init 20 = .ok (.aload_n 0, 1) := by decide +kernel
theorem dX6_init_21 : decode cX6_init 21 = .ok (.getfield 12, 3) := by decide +kernel
theorem dX6_init_24 : decode cX6_init 24 = .ok (.invokespecial 20, 3) := by decide +kernel
theorem dX6_init_27 : decode cX6_init 27 = .ok (.putfield 23, 3) := by decide +kernel
theorem dX6_init_30 : decode cX6_init 30 = .ok (.aload_n 0, 1) := by decide +kernel
theorem dX6_init_31 : decode cX6_init 31 = .ok (.new 18, 3) := by decide +kernel
theorem dX6_init_34 : decode cX6_init 34 = .ok (.dup, 1) := by decide +kernel
theorem dX6_init_35 : decode cX6_init 35 = .ok (.aload_n 0, 1) := by decide +kernel
theorem dX6_init_36 : decode cX6_init 36 = .ok (.getfield 12, 3) := by decide +kernel
theorem dX6_init_39 : decode cX6_init 39 = .ok (.invokespecial 20, 3) := by decide +kernel
theorem dX6_init_42 : decode cX6_init 42 = .ok (.putfield 27, 3) := by decide +kernel
theorem dX6_init_45 : decode cX6_init 45 = .ok (.aload_n 0, 1) := by decide +kernel
theorem dX6_init_46 : decode cX6_init 46 = .ok (.new 18, 3) := by decide +kernel
theorem dX6_init_49 : decode cX6_init 49 = .ok (.dup, 1) := by decide +kernel
theorem dX6_init_50 : decode cX6_init 50 = .ok (.aload_n 0, 1) := by decide +kernel
theorem dX6_init_51 : decode cX6_init 51 = .ok (.getfield 12, 3) := by decide +kernel
theorem dX6_init_54 : decode cX6_init 54 = .ok (.invokespecial 20, 3) := by decide +kernel
theorem dX6_init_57 : decode cX6_init 57 = .ok (.putfield 30, 3) := by decide +kernel
theorem dX6_init_60 : decode cX6_init 60 = .ok (.aload_n 0, 1) := by decide +kernel
theorem dX6_init_61 : decode cX6_init 61 = .ok (.new 33, 3) := by decide +kernel
theorem dX6_init_64 : decode cX6_init 64 = .ok (.dup, 1) := by decide +kernel
theorem dX6_init_65 : decode cX6_init 65 = .ok (.invokespecial 35, 3) := by decide +kernel
theorem dX6_init_68 : decode cX6_init 68 = .ok (.putfield 36, 3) := by decide +kernel
theorem dX6_init_71 : decode cX6_init 71 = .ok (.aload_n 0, 1) := by decide +kernel
theorem dX6_init_72 : decode cX6_init 72 = .ok (.new 40, 3) := by decide +kernel
theorem dX6_init_75 : decode cX6_init 75 = .ok (.dup, 1) := by decide +kernel
theorem dX6_init_76 : decode cX6_init 76 = .ok (.invokespecial 42, 3) := by decide +kernel
theorem dX6_init_79 : decode cX6_init 79 = .ok (.putfield 43, 3) := by decide +kernel
theorem dX6_init_82 : decode cX6_init 82 = .ok (.return_, 1) := by decide +kernel
set_option maxRecDepth 20000 in
theorem ggX6_prime_X3_become : GoodIn wsX6_prime wsX3_become := goodIn_r _ [6, 7, 8, 9, 10, 11, 12, 13, 21, 22, 23, 24, 25, 26, 27, 28, 29, 30] (by decide +kernel) (by decide +kernel)
set_option maxRecDepth 20000 in
theorem gX6_prime_X3_become : GoodIn wsX6_prime (wsV RX6 54 RX3 yX3_become wsX3_become) := goodIn_app (goodIn_of _ (by decide +kernel)) ggX6_prime_X3_become
theorem dX6_prime_0 : decode cX6_prime 0 = .ok (.iload_n 1, 1) := by decide +kernel
theorem dX6_prime_1 : decode cX6_prime 1 = .ok (.iconst 2, 1) := by decide +kernel
theorem dX6_prime_2 : decode cX6_prime 2 = .ok (.if_icmp .eq 22, 3) := by decide +kernel
theorem dX6_prime_5 : decode cX6_prime 5 = .ok (.iload_n 1, 1) := by decide +kernel
theorem dX6_prime_6 : decode cX6_prime 6 = .ok (.iconst 3, 1) := by decide +kernel
theorem dX6_prime_7 : decode cX6_prime 7 = .ok (.if_icmp .eq 17, 3) := by decide +kernel
theorem dX6_prime_10 : decode cX6_prime 10 = .ok (.iload_n 1, 1) := by decide +kernel
theorem dX6_prime_11 : decode cX6_prime 11 = .ok (.iconst 5, 1) := by decide +kernel
theorem dX6_prime_12 : decode cX6_prime 12 = .ok (.if_icmp .eq 12, 3) := by decide +kernel
theorem dX6_prime_15 : decode cX6_prime 15 = .ok (.iload_n 1, 1) := by decide +kernel
theorem dX6_prime_16 : decode cX6_prime 16 = .ok (.bipush 7, 2) := by decide +kernel
theorem dX6_prime_18 : decode cX6_prime 18 = .ok (.if_icmp .eq 6, 3) := by decide +kernel
theorem dX6_prime_21 : decode cX6_prime 21 = .ok (.bipush (-2), 2) := by decide +kernel
theorem dX6_prime_23 : decode cX6_prime 23 = .ok (.ireturn, 1) := by decide +kernel
theorem dX6_prime_24 : decode cX6_prime 24 = .ok (.aload_n 0, 1) := by decide +kernel
theorem dX6_prime_25 : decode cX6_prime 25 = .ok (.getfield 23, 3) := by decide +kernel
theorem dX6_prime_28 : decode cX6_prime 28 = .ok (.getfield 47, 3) := by decide +kernel
theorem dX6_prime_31 : decode cX6_prime 31 = .ok (.istore_n 2, 1) := by decide +kernel
theorem dX6_prime_32 : decode cX6_prime 32 = .ok (.aload_n 0, 1) := by decide +kernel
theorem dX6_prime_33 : decode cX6_prime 33 = .ok (.getfield 23, 3) := by decide +kernel
theorem dX6_prime_36 : decode cX6_prime 36 = .ok (.iload_n 1, 1) := by decide +kernel
theorem dX6_prime_37 : decode cX6_prime 37 = .ok (.aload_n 0, 1) := by decide +kernel
theorem dX6_prime_38 : decode cX6_prime 38 = .ok (.getfield 23, 3) := by decide +kernel
theorem dX6_prime_41 : decode cX6_prime 41 = .ok (.getfield 51, 3) := by decide +kernel
theorem dX6_prime_44 : decode cX6_prime 44 = .ok (.invokevirtual 54, 3) := by decide +kernel
theorem dX6_prime_47 : decode cX6_prime 47 = .ok (.iload_n 2, 1) := by decide +kernel
theorem dX6_prime_48 : decode cX6_prime 48 = .ok (.ireturn, 1) := by decide +kernel
set_option maxRecDepth 20000 in
theorem ggX6_power_X6_isWithin : GoodIn wsX6_power wsX6_isWithin := goodIn_r _ [5] (by decide +kernel) (by decide +kernel)
set_option maxRecDepth 20000 in
theorem gX6_power_X6_isWithin : GoodIn wsX6_power (va_wsS RX6 58 yX6_isWithin wsX6_isWithin) := goodIn_app (goodIn_of _ (by decide +kernel)) ggX6_power_X6_isWithin
set_option maxRecDepth 20000 in
theorem ggX6_power_X3_become : GoodIn wsX6_power wsX3_become := goodIn_r _ [10, 11, 12, 13, 14, 15, 16, 17, 25, 26, 27, 28, 29, 30, 31, 32, 33, 34] (by decide +kernel) (by decide +kernel)
set_option maxRecDepth 20000 in
theorem gX6_power_X3_become : GoodIn wsX6_power (wsV RX6 54 RX3 yX3_become wsX3_become) := goodIn_app (goodIn_of _ (by decide +kernel)) ggX6_power_X3_become
theorem dX6_power_0 : decode cX6_power 0 = .ok (.iload_n 1, 1) := by decide +kernel
theorem dX6_power_1 : decode cX6_power 1 = .ok (.iconst 1, 1) := by decide +kernel
theorem dX6_power_2 : decode cX6_power 2 = .ok (.iconst 4, 1) := by decide +kernel
theorem dX6_power_3 : decode cX6_power 3 = .ok (.invokestatic 58, 3) := by decide +kernel
theorem dX6_power_6 : decode cX6_power 6 = .ok (.ifCond .ne 6, 3) := by decide +kernel
theorem dX6_power_9 : decode cX6_power 9 = .ok (.bipush (-2), 2) := by decide +kernel
theorem dX6_power_11 : decode cX6_power 11 = .ok (.ireturn, 1) := by decide +kernel
theorem dX6_power_12 : decode cX6_power 12 = .ok (.aload_n 0, 1) := by decide +kernel
theorem dX6_power_13 : decode cX6_power 13 = .ok (.getfield 23, 3) := by decide +kernel
theorem dX6_power_16 : decode cX6_power 16 = .ok (.getfield 51, 3) := by decide +kernel
theorem dX6_power_19 : decode cX6_power 19 = .ok (.istore_n 2, 1) := by decide +kernel
theorem dX6_power_20 : decode cX6_power 20 = .ok (.aload_n 0, 1) := by decide +kernel
theorem dX6_power_21 : decode cX6_power 21 = .ok (.getfield 23, 3) := by decide +kernel
theorem dX6_power_24 : decode cX6_power 24 = .ok (.aload_n 0, 1) := by decide +kernel
theorem dX6_power_25 : decode cX6_power 25 = .ok (.getfield 23, 3) := by decide +kernel
theorem dX6_power_28 : decode cX6_power 28 = .ok (.getfield 47, 3) := by decide +kernel
theorem dX6_power_31 : decode cX6_power 31 = .ok (.iload_n 1, 1) := by decide +kernel
theorem dX6_power_32 : decode cX6_power 32 = .ok (.invokevirtual 54, 3) := by decide +kernel
theorem dX6_power_35 : decode cX6_power 35 = .ok (.iload_n 2, 1) := by decide +kernel
theorem dX6_power_36 : decode cX6_power 36 = .ok (.ireturn, 1) := by decide +kernel
set_option maxRecDepth 20000 in
theorem ggX6_mark_X6_isWithin : GoodIn wsX6_mark wsX6_isWithin := goodIn_r _ [5] (by decide +kernel) (by decide +kernel)
set_option maxRecDepth 20000 in
theorem gX6_mark_X6_isWithin : GoodIn wsX6_mark (va_wsS RX6 58 yX6_isWithin wsX6_isWithin) := goodIn_app (goodIn_of _ (by decide +kernel)) ggX6_mark_X6_isWithin
set_option maxRecDepth 20000 in
theorem ggX6_mark_X1_add : GoodIn wsX6_mark wsX1_add := goodIn_r _ [10, 11, 12, 30, 31] (by decide +kernel) (by decide +kernel)
set_option maxRecDepth 20000 in
theorem gX6_mark_X1_add : GoodIn wsX6_mark (wsV RX6 66 RX1 yX1_add wsX1_add) := goodIn_app (goodIn_of _ (by decide +kernel)) ggX6_mark_X1_add
theorem dX6_mark_0 : decode cX6_mark 0 = .ok (.iload_n 1, 1) := by decide +kernel
theorem dX6_mark_1 : decode cX6_mark 1 = .ok (.iconst 0, 1) := by decide +kernel
theorem dX6_mark_2 : decode cX6_mark 2 = .ok (.iconst 4, 1) := by decide +kernel
theorem dX6_mark_3 : decode cX6_mark 3 = .ok (.invokestatic 58, 3) := by decide +kernel
theorem dX6_mark_6 : decode cX6_mark 6 = .ok (.ifCond .ne 5, 3) := by decide +kernel
theorem dX6_mark_9 : decode cX6_mark 9 = .ok (.iconst (-1), 1) := by decide +kernel
theorem dX6_mark_10 : decode cX6_mark 10 = .ok (.ireturn, 1) := by decide +kernel
theorem dX6_mark_11 : decode cX6_mark 11 = .ok (.iload_n 2, 1) := by decide +kernel
theorem dX6_mark_12 : decode cX6_mark 12 = .ok (.iconst 0, 1) := by decide +kernel
theorem dX6_mark_13 : decode cX6_mark 13 = .ok (.sipush 2400, 3) := by decide +kernel
theorem dX6_mark_16 : decode cX6_mark 16 = .ok (.invokestatic 58, 3) := by decide +kernel
theorem dX6_mark_19 : decode cX6_mark 19 = .ok (.ifCond .ne 6, 3) := by decide +kernel
theorem dX6_mark_22 : decode cX6_mark 22 = .ok (.bipush (-2), 2) := by decide +kernel
theorem dX6_mark_24 : decode cX6_mark 24 = .ok (.ireturn, 1) := by decide +kernel
theorem dX6_mark_25 : decode cX6_mark 25 = .ok (.aload_n 0, 1) := by decide +kernel
theorem dX6_mark_26 : decode cX6_mark 26 = .ok (.getfield 23, 3) := by decide +kernel
theorem dX6_mark_29 : decode cX6_mark 29 = .ok (.getfield 62, 3) := by decide +kernel
theorem dX6_mark_32 : decode cX6_mark 32 = .ok (.iload_n 1, 1) := by decide +kernel
theorem dX6_mark_33 : decode cX6_mark 33 = .ok (.iload_n 2, 1) := by decide +kernel
theorem dX6_mark_34 : decode cX6_mark 34 = .ok (.iconst 0, 1) := by decide +kernel
theorem dX6_mark_35 : decode cX6_mark 35 = .ok (.invokevirtual 66, 3) := by decide +kernel
theorem dX6_mark_38 : decode cX6_mark 38 = .ok (.ireturn, 1) := by decide +kernel
set_option maxRecDepth 20000 in
theorem ggX6_clear_X1_empty : GoodIn wsX6_clear wsX1_empty := goodIn_r _ [6, 7, 25, 26] (by decide +kernel) (by decide +kernel)
set_option maxRecDepth 20000 in
theorem gX6_clear_X1_empty : GoodIn wsX6_clear (wsV RX6 75 RX1 yX1_empty wsX1_empty) := goodIn_app (goodIn_of _ (by decide +kernel)) ggX6_clear_X1_empty
theorem dX6_clear_0 : decode cX6_clear 0 = .ok (.aload_n 0, 1) := by decide +kernel
theorem dX6_clear_1 : decode cX6_clear 1 = .ok (.getfield 23, 3) := by decide +kernel
theorem dX6_clear_4 : decode cX6_clear 4 = .ok (.getfield 62, 3) := by decide +kernel
theorem dX6_clear_7 : decode cX6_clear 7 = .ok (.getfield 72, 3) := by decide +kernel
theorem dX6_clear_10 : decode cX6_clear 10 = .ok (.istore_n 1, 1) := by decide +kernel
theorem dX6_clear_11 : decode cX6_clear 11 = .ok (.aload_n 0, 1) := by decide +kernel
theorem dX6_clear_12 : decode cX6_clear 12 = .ok (.getfield 23, 3) := by decide +kernel
theorem dX6_clear_15 : decode cX6_clear 15 = .ok (.getfield 62, 3) := by decide +kernel
theorem dX6_clear_18 : decode cX6_clear 18 = .ok (.invokevirtual 75, 3) := by decide +kernel
theorem dX6_clear_21 : decode cX6_clear 21 = .ok (.iload_n 1, 1) := by decide +kernel
theorem dX6_clear_22 : decode cX6_clear 22 = .ok (.ireturn, 1) := by decide +kernel
set_option maxRecDepth 20000 in
theorem ggX6_window_X6_isWithin : GoodIn wsX6_window wsX6_isWithin := goodIn_r _ [5] (by decide +kernel) (by decide +kernel)
set_option maxRecDepth 20000 in
theorem gX6_window_X6_isWithin : GoodIn wsX6_window (va_wsS RX6 58 yX6_isWithin wsX6_isWithin) := goodIn_app (goodIn_of _ (by decide +kernel)) ggX6_window_X6_isWithin
theorem dX6_window_0 : decode cX6_window 0 = .ok (.iload_n 1, 1) := by decide +kernel
theorem dX6_window_1 : decode cX6_window 1 = .ok (.iconst 0, 1) := by decide +kernel
theorem dX6_window_2 : decode cX6_window 2 = .ok (.bipush 127, 2) := by decide +kernel
theorem dX6_window_4 : decode cX6_window 4 = .ok (.invokestatic 58, 3) := by decide +kernel
theorem dX6_window_7 : decode cX6_window 7 = .ok (.ifCond .eq 13, 3) := by decide +kernel
theorem dX6_window_10 : decode cX6_window 10 = .ok (.iload_n 2, 1) := by decide +kernel
theorem dX6_window_11 : decode cX6_window 11 = .ok (.iconst 0, 1) := by decide +kernel
theorem dX6_window_12 : decode cX6_window 12 = .ok (.bipush 127, 2) := by decide +kernel
theorem dX6_window_14 : decode cX6_window 14 = .ok (.invokestatic 58, 3) := by decide +kernel
theorem dX6_window_17 : decode cX6_window 17 = .ok (.ifCond .ne 6, 3) := by decide +kernel
theorem dX6_window_20 : decode cX6_window 20 = .ok (.bipush (-2), 2) := by decide +kernel
theorem dX6_window_22 : decode cX6_window 22 = .ok (.ireturn, 1) := by decide +kernel
theorem dX6_window_23 : decode cX6_window 23 = .ok (.sipush 1000, 3) := by decide +kernel
theorem dX6_window_26 : decode cX6_window 26 = .ok (.aload_n 0, 1) := by decide +kernel
theorem dX6_window_27 : decode cX6_window 27 = .ok (.getfield 23, 3) := by decide +kernel
theorem dX6_window_30 : decode cX6_window 30 = .ok (.getfield 78, 3) := by decide +kernel
theorem dX6_window_33 : decode cX6_window 33 = .ok (.imul, 1) := by decide +kernel
theorem dX6_window_34 : decode cX6_window 34 = .ok (.aload_n 0, 1) := by decide +kernel
theorem dX6_window_35 : decode cX6_window 35 = .ok (.getfield 23, 3) := by decide +kernel
theorem dX6_window_38 : decode cX6_window 38 = .ok (.getfield 81, 3) := by decide +kernel
theorem dX6_window_41 : decode cX6_window 41 = .ok (.iadd, 1) := by decide +kernel
theorem dX6_window_42 : decode cX6_window 42 = .ok (.istore_n 3, 1) := by decide +kernel
theorem dX6_window_43 : decode cX6_window 43 = .ok (.aload_n 0, 1) := by decide +kernel
theorem dX6_window_44 : decode cX6_window 44 = .ok (.getfield 23, 3) := by decide +kernel
theorem dX6_window_47 : decode cX6_window 47 = .ok (.iload_n 1, 1) := by decide +kernel
theorem dX6_window_48 : decode cX6_window 48 = .ok (.putfield 78, 3) := by decide +kernel
theorem dX6_window_51 : decode cX6_window 51 = .ok (.aload_n 0, 1) := by decide +kernel
theorem dX6_window_52 : decode cX6_window 52 = .ok (.getfield 23, 3) := by decide +kernel
theorem dX6_window_55 : decode cX6_window 55 = .ok (.iload_n 2, 1) := by decide +kernel
theorem dX6_window_56 : decode cX6_window 56 = .ok (.putfield 81, 3) := by decide +kernel
theorem dX6_window_59 : decode cX6_window 59 = .ok (.iload_n 3, 1) := by decide +kernel
theorem dX6_window_60 : decode cX6_window 60 = .ok (.ireturn, 1) := by decide +kernel
set_option maxRecDepth 20000 in
theorem ggX6_feed_X6_isWithin : GoodIn wsX6_feed wsX6_isWithin := goodIn_r _ [5] (by decide +kernel) (by decide +kernel)
set_option maxRecDepth 20000 in
theorem gX6_feed_X6_isWithin : GoodIn wsX6_feed (va_wsS RX6 58 yX6_isWithin wsX6_isWithin) := goodIn_app (goodIn_of _ (by decide +kernel)) ggX6_feed_X6_isWithin
set_option maxRecDepth 20000 in
theorem ggX6_feed_X2_add : GoodIn wsX6_feed wsX2_add := goodIn_r _ [10, 11, 12, 20, 21, 22, 23] (by decide +kernel) (by decide +kernel)
set_option maxRecDepth 20000 in
theorem gX6_feed_X2_add : GoodIn wsX6_feed (wsV RX6 84 RX2 yX2_add wsX2_add) := goodIn_app (goodIn_of _ (by decide +kernel)) ggX6_feed_X2_add
theorem dX6_feed_0 : decode cX6_feed 0 = .ok (.iload_n 1, 1) := by decide +kernel
theorem dX6_feed_1 : decode cX6_feed 1 = .ok (.iconst 0, 1) := by decide +kernel
theorem dX6_feed_2 : decode cX6_feed 2 = .ok (.bipush 127, 2) := by decide +kernel
theorem dX6_feed_4 : decode cX6_feed 4 = .ok (.invokestatic 58, 3) := by decide +kernel
theorem dX6_feed_7 : decode cX6_feed 7 = .ok (.ifCond .eq 14, 3) := by decide +kernel
theorem dX6_feed_10 : decode cX6_feed 10 = .ok (.aload_n 0, 1) := by decide +kernel
theorem dX6_feed_11 : decode cX6_feed 11 = .ok (.getfield 36, 3) := by decide +kernel
theorem dX6_feed_14 : decode cX6_feed 14 = .ok (.iload_n 1, 1) := by decide +kernel
theorem dX6_feed_15 : decode cX6_feed 15 = .ok (.invokevirtual 84, 3) := by decide +kernel
theorem dX6_feed_18 : decode cX6_feed 18 = .ok (.goto 5, 3) := by decide +kernel
theorem dX6_feed_21 : decode cX6_feed 21 = .ok (.bipush (-2), 2) := by decide +kernel
theorem dX6_feed_23 : decode cX6_feed 23 = .ok (.ireturn, 1) := by decide +kernel
set_option maxRecDepth 20000 in
theorem ggX6_read_X2_faultOfText : GoodIn wsX6_read wsX2_faultOfText := goodIn_r _ [6, 7, 8, 9, 10, 11, 12, 13, 14, 15, 16, 17, 18, 5, 19, 20, 21, 22, 23, 24, 25, 26, 27, 28, 29, 30, 31, 32, 33, 34, 35, 36, 37, 38, 39, 40, 41, 42, 43, 44, 100, 101, 102, 103, 104, 105] (by decide +kernel) (by decide +kernel)
set_option maxRecDepth 20000 in
theorem gX6_read_X2_faultOfText : GoodIn wsX6_read (wsV RX6 87 RX2 yX2_faultOfText wsX2_faultOfText) := goodIn_app (goodIn_of _ (by decide +kernel)) ggX6_read_X2_faultOfText
set_option maxRecDepth 20000 in
theorem ggX6_read_X2_emptyText : GoodIn wsX6_read wsX2_emptyText := goodIn_r _ [48, 9, 100, 101, 102, 103] (by decide +kernel) (by decide +kernel)
set_option maxRecDepth 20000 in
theorem gX6_read_X2_emptyText : GoodIn wsX6_read (wsV RX6 91 RX2 yX2_emptyText wsX2_emptyText) := goodIn_app (goodIn_of _ (by decide +kernel)) ggX6_read_X2_emptyText
set_option maxRecDepth 20000 in
theorem ggX6_read_X1_number : GoodIn wsX6_read wsX1_number := goodIn_r _ [52, 15, 44, 33, 34, 35, 104, 105] (by decide +kernel) (by decide +kernel)
set_option maxRecDepth 20000 in
theorem gX6_read_X1_number : GoodIn wsX6_read (wsV RX6 97 RX1 yX1_number wsX1_number) := goodIn_app (goodIn_of _ (by decide +kernel)) ggX6_read_X1_number
set_option maxRecDepth 20000 in
theorem ggX6_read_X6_doClause : GoodIn wsX6_read wsX6_doClause := goodIn_r _ [56, 57, 58, 59, 34, 60, 61, 62, 63, 64, 65, 66, 67, 68, 69, 70, 71, 72, 73, 74, 75, 76, 77, 78, 33, 35, 79, 80, 81, 82, 83, 41, 42, 13, 43, 15, 44, 84, 85, 86, 87, 88, 89, 90, 91, 92, 11, 12, 14, 93, 94, 95, 96, 97, 98, 99, 106, 107, 108, 109, 110, 111, 112, 113, 114, 115, 104, 105] (by decide +kernel) (by decide +kernel)
set_option maxRecDepth 20000 in
theorem gX6_read_X6_doClause : GoodIn wsX6_read (wsV RX6 101 RX6 yX6_doClause wsX6_doClause) := goodIn_app (goodIn_of _ (by decide +kernel)) ggX6_read_X6_doClause
theorem dX6_read_0 : decode cX6_read 0 = .ok (.aload_n 0, 1) := by decide +kernel
theorem dX6_read_1 : decode cX6_read 1 = .ok (.getfield 36, 3) := by decide +kernel
theorem dX6_read_4 : decode cX6_read 4 = .ok (.invokevirtual 87, 3) := by decide +kernel
theorem dX6_read_7 : decode cX6_read 7 = .ok (.istore_n 1, 1) := by decide +kernel
theorem dX6_read_8 : decode cX6_read 8 = .ok (.aload_n 0, 1) := by decide +kernel
theorem dX6_read_9 : decode cX6_read 9 = .ok (.getfield 36, 3) := by decide +kernel
theorem dX6_read_12 : decode cX6_read 12 = .ok (.invokevirtual 91, 3) := by decide +kernel
theorem dX6_read_15 : decode cX6_read 15 = .ok (.iload_n 1, 1) := by decide +kernel
theorem dX6_read_16 : decode cX6_read 16 = .ok (.iconst (-1), 1) := by decide +kernel
theorem dX6_read_17 : decode cX6_read 17 = .ok (.if_icmp .eq 8, 3) := by decide +kernel
theorem dX6_read_20 : decode cX6_read 20 = .ok (.bipush (-10), 2) := by decide +kernel
theorem dX6_read_22 : decode cX6_read 22 = .ok (.iload_n 1, 1) := by decide +kernel
theorem dX6_read_23 : decode cX6_read 23 = .ok (.isub, 1) := by decide +kernel
theorem dX6_read_24 : decode cX6_read 24 = .ok (.ireturn, 1) := by decide +kernel
theorem dX6_read_25 : decode cX6_read 25 = .ok (.iconst 0, 1) := by decide +kernel
theorem dX6_read_26 : decode cX6_read 26 = .ok (.istore_n 2, 1) := by decide +kernel
theorem dX6_read_27 : decode cX6_read 27 = .ok (.iconst 0, 1) := by decide +kernel
theorem dX6_read_28 : decode cX6_read 28 = .ok (.istore_n 3, 1) := by decide +kernel
theorem dX6_read_29 : decode cX6_read 29 = .ok (.iload_n 3, 1) := by decide +kernel
theorem dX6_read_30 : decode cX6_read 30 = .ok (.aload_n 0, 1) := by decide +kernel
theorem dX6_read_31 : decode cX6_read 31 = .ok (.getfield 36, 3) := by decide +kernel
theorem dX6_read_34 : decode cX6_read 34 = .ok (.getfield 94, 3) := by decide +kernel
theorem dX6_read_37 : decode cX6_read 37 = .ok (.getfield 72, 3) := by decide +kernel
theorem dX6_read_40 : decode cX6_read 40 = .ok (.if_icmp .ge 55, 3) := by decide +kernel
theorem dX6_read_43 : decode cX6_read 43 = .ok (.aload_n 0, 1) := by decide +kernel
theorem dX6_read_44 : decode cX6_read 44 = .ok (.aload_n 0, 1) := by decide +kernel
theorem dX6_read_45 : decode cX6_read 45 = .ok (.getfield 36, 3) := by decide +kernel
theorem dX6_read_48 : decode cX6_read 48 = .ok (.getfield 94, 3) := by decide +kernel
theorem dX6_read_51 : decode cX6_read 51 = .ok (.iload_n 3, 1) := by decide +kernel
theorem dX6_read_52 : decode cX6_read 52 = .ok (.iconst 0, 1) := by decide +kernel
theorem dX6_read_53 : decode cX6_read 53 = .ok (.invokevirtual 97, 3) := by decide +kernel
theorem dX6_read_56 : decode cX6_read 56 = .ok (.aload_n 0, 1) := by decide +kernel
theorem dX6_read_57 : decode cX6_read 57 = .ok (.getfield 36, 3) := by decide +kernel
theorem dX6_read_60 : decode cX6_read 60 = .ok (.getfield 94, 3) := by decide +kernel
theorem dX6_read_63 : decode cX6_read 63 = .ok (.iload_n 3, 1) := by decide +kernel
theorem dX6_read_64 : decode cX6_read 64 = .ok (.iconst 1, 1) := by decide +kernel
theorem dX6_read_65 : decode cX6_read 65 = .ok (.invokevirtual 97, 3) := by decide +kernel
theorem dX6_read_68 : decode cX6_read 68 = .ok (.aload_n 0, 1) := by decide +kernel
theorem dX6_read_69 : decode cX6_read 69 = .ok (.getfield 36, 3) := by decide +kernel
theorem dX6_read_72 : decode cX6_read 72 = .ok (.getfield 94, 3) := by decide +kernel
theorem dX6_read_75 : decode cX6_read 75 = .ok (.iload_n 3, 1) := by decide +kernel
theorem dX6_read_76 : decode cX6_read 76 = .ok (.iconst 2, 1) := by decide +kernel
theorem dX6_read_77 : decode cX6_read 77 = .ok (.invokevirtual 97, 3) := by decide +kernel
theorem dX6_read_80 : decode cX6_read 80 = .ok (.invokevirtual 101, 3) := by decide +kernel
theorem dX6_read_83 : decode cX6_read 83 = .ok (.ifCond .lt 6, 3) := by decide +kernel
theorem dX6_read_86 : decode cX6_read 86 = .ok (.iinc 2 1, 3) := by decide +kernel
theorem dX6_read_89 : decode cX6_read 89 = .ok (.iinc 3 1, 3) := by decide +kernel
theorem dX6_read_92 : decode cX6_read 92 = .ok (.goto (-63), 3) := by decide +kernel
theorem dX6_read_95 : decode cX6_read 95 = .ok (.iload_n 2, 1) := by decide +kernel
theorem dX6_read_96 : decode cX6_read 96 = .ok (.ireturn, 1) := by decide +kernel
set_option maxRecDepth 20000 in
theorem ggX6_doClause_X6_prime : GoodIn wsX6_doClause wsX6_prime := goodIn_r _ [5, 6, 7, 8, 9, 10, 11, 12, 13, 14, 15, 16, 17, 18, 49, 50, 51, 52, 53, 54, 55, 56, 57, 58, 59, 60, 61, 62, 63, 64, 65] (by decide +kernel) (by decide +kernel)
set_option maxRecDepth 20000 in
theorem gX6_doClause_X6_prime : GoodIn wsX6_doClause (wsV RX6 104 RX6 yX6_prime wsX6_prime) := goodIn_app (goodIn_of _ (by decide +kernel)) ggX6_doClause_X6_prime
set_option maxRecDepth 20000 in
theorem ggX6_doClause_X6_power : GoodIn wsX6_doClause wsX6_power := goodIn_r _ [22, 6, 23, 24, 4, 25, 7, 8, 9, 10, 11, 12, 13, 14, 15, 16, 17, 18, 49, 50, 51, 52, 53, 54, 55, 56, 57, 58, 59, 60, 61, 62, 63, 64, 65] (by decide +kernel) (by decide +kernel)
set_option maxRecDepth 20000 in
theorem gX6_doClause_X6_power : GoodIn wsX6_doClause (wsV RX6 107 RX6 yX6_power wsX6_power) := goodIn_app (goodIn_of _ (by decide +kernel)) ggX6_doClause_X6_power
set_option maxRecDepth 20000 in
theorem ggX6_doClause_X6_mark : GoodIn wsX6_doClause wsX6_mark := goodIn_r _ [29, 6, 23, 24, 4, 25, 30, 31, 32, 33, 34, 35, 36, 49, 50, 51, 52, 53, 54, 55, 56, 57, 58, 59, 60, 61, 62, 63, 64, 65, 66, 67] (by decide +kernel) (by decide +kernel)
set_option maxRecDepth 20000 in
theorem gX6_doClause_X6_mark : GoodIn wsX6_doClause (wsV RX6 110 RX6 yX6_mark wsX6_mark) := goodIn_app (goodIn_of _ (by decide +kernel)) ggX6_doClause_X6_mark
set_option maxRecDepth 20000 in
theorem ggX6_doClause_X6_window : GoodIn wsX6_doClause wsX6_window := goodIn_r _ [40, 6, 23, 24, 4, 25, 49, 50, 51, 52, 53, 54, 55, 56, 57, 58, 59, 60, 61, 62, 63, 64, 65] (by decide +kernel) (by decide +kernel)
set_option maxRecDepth 20000 in
theorem gX6_doClause_X6_window : GoodIn wsX6_doClause (wsV RX6 113 RX6 yX6_window wsX6_window) := goodIn_app (goodIn_of _ (by decide +kernel)) ggX6_doClause_X6_window
set_option maxRecDepth 20000 in
theorem ggX6_doClause_X6_clear : GoodIn wsX6_doClause wsX6_clear := goodIn_r _ [44, 6, 45, 46, 47, 33, 48, 35, 49, 50, 51, 52, 53, 54, 55, 56, 57, 58, 59, 60, 61, 62, 63, 64, 65, 66, 67] (by decide +kernel) (by decide +kernel)
set_option maxRecDepth 20000 in
theorem gX6_doClause_X6_clear : GoodIn wsX6_doClause (wsV RX6 116 RX6 yX6_clear wsX6_clear) := goodIn_app (goodIn_of _ (by decide +kernel)) ggX6_doClause_X6_clear
theorem dX6_doClause_0 : decode cX6_doClause 0 = .ok (.iload_n 1, 1) := by decide +kernel
theorem dX6_doClause_1 : decode cX6_doClause 1 = .ok (.lookupswitch 69 #[(101, 49), (109, 55), (112, 43), (119, 62)], 43) := by decide +kernel
theorem dX6_doClause_44 : decode cX6_doClause 44 = .ok (.aload_n 0, 1) := by decide +kernel
theorem dX6_doClause_45 : decode cX6_doClause 45 = .ok (.iload_n 2, 1) := by decide +kernel
theorem dX6_doClause_46 : decode cX6_doClause 46 = .ok (.invokevirtual 104, 3) := by decide +kernel
theorem dX6_doClause_49 : decode cX6_doClause 49 = .ok (.ireturn, 1) := by decide +kernel
theorem dX6_doClause_50 : decode cX6_doClause 50 = .ok (.aload_n 0, 1) := by decide +kernel
theorem dX6_doClause_51 : decode cX6_doClause 51 = .ok (.iload_n 2, 1) := by decide +kernel
theorem dX6_doClause_52 : decode cX6_doClause 52 = .ok (.invokevirtual 107, 3) := by decide +kernel
theorem dX6_doClause_55 : decode cX6_doClause 55 = .ok (.ireturn, 1) := by decide +kernel
theorem dX6_doClause_56 : decode cX6_doClause 56 = .ok (.aload_n 0, 1) := by decide +kernel
theorem dX6_doClause_57 : decode cX6_doClause 57 = .ok (.iload_n 2, 1) := by decide +kernel
theorem dX6_doClause_58 : decode cX6_doClause 58 = .ok (.iload_n 3, 1) := by decide +kernel
theorem dX6_doClause_59 : decode cX6_doClause 59 = .ok (.invokevirtual 110, 3) := by decide +kernel
theorem dX6_doClause_62 : decode cX6_doClause 62 = .ok (.ireturn, 1) := by decide +kernel
theorem dX6_doClause_63 : decode cX6_doClause 63 = .ok (.aload_n 0, 1) := by decide +kernel
theorem dX6_doClause_64 : decode cX6_doClause 64 = .ok (.iload_n 2, 1) := by decide +kernel
theorem dX6_doClause_65 : decode cX6_doClause 65 = .ok (.iload_n 3, 1) := by decide +kernel
theorem dX6_doClause_66 : decode cX6_doClause 66 = .ok (.invokevirtual 113, 3) := by decide +kernel
theorem dX6_doClause_69 : decode cX6_doClause 69 = .ok (.ireturn, 1) := by decide +kernel
theorem dX6_doClause_70 : decode cX6_doClause 70 = .ok (.aload_n 0, 1) := by decide +kernel
theorem dX6_doClause_71 : decode cX6_doClause 71 = .ok (.invokevirtual 116, 3) := by decide +kernel
theorem dX6_doClause_74 : decode cX6_doClause 74 = .ok (.ireturn, 1) := by decide +kernel
set_option maxRecDepth 20000 in
theorem ggX6_told_X3_markedInWindow : GoodIn wsX6_told wsX3_markedInWindow := goodIn_r _ [6, 7, 8, 9, 5, 10, 11, 12, 13, 14, 15, 16, 17, 18, 19, 20, 21, 22, 23, 24, 25, 26, 27, 28, 29, 30, 31, 32, 33, 34, 35, 36, 37, 38, 39, 40, 41, 42, 43, 44, 45, 46, 47, 48, 49, 50, 51, 52, 53, 54, 55, 56, 57, 58, 59, 60, 61, 62, 63, 64, 65, 66, 67, 68, 69, 70, 71, 79, 80, 81, 82, 83, 84, 85, 86, 87, 88, 89, 90, 91] (by decide +kernel) (by decide +kernel)
set_option maxRecDepth 20000 in
theorem gX6_told_X3_markedInWindow : GoodIn wsX6_told (wsV RX6 122 RX3 yX3_markedInWindow wsX3_markedInWindow) := goodIn_app (goodIn_of _ (by decide +kernel)) ggX6_told_X3_markedInWindow
theorem dX6_told_0 : decode cX6_told 0 = .ok (.iload_n 1, 1) := by decide +kernel
theorem dX6_told_1 : decode cX6_told 1 = .ok (.tableswitch 102 0 6 #[43, 51, 59, 67, 78, 86, 94], 43) := by decide +kernel
theorem dX6_told_44 : decode cX6_told 44 = .ok (.aload_n 0, 1) := by decide +kernel
theorem dX6_told_45 : decode cX6_told 45 = .ok (.getfield 23, 3) := by decide +kernel
theorem dX6_told_48 : decode cX6_told 48 = .ok (.getfield 47, 3) := by decide +kernel
theorem dX6_told_51 : decode cX6_told 51 = .ok (.ireturn, 1) := by decide +kernel
theorem dX6_told_52 : decode cX6_told 52 = .ok (.aload_n 0, 1) := by decide +kernel
theorem dX6_told_53 : decode cX6_told 53 = .ok (.getfield 23, 3) := by decide +kernel
theorem dX6_told_56 : decode cX6_told 56 = .ok (.getfield 51, 3) := by decide +kernel
theorem dX6_told_59 : decode cX6_told 59 = .ok (.ireturn, 1) := by decide +kernel
theorem dX6_told_60 : decode cX6_told 60 = .ok (.aload_n 0, 1) := by decide +kernel
theorem dX6_told_61 : decode cX6_told 61 = .ok (.getfield 23, 3) := by decide +kernel
theorem dX6_told_64 : decode cX6_told 64 = .ok (.getfield 119, 3) := by decide +kernel
theorem dX6_told_67 : decode cX6_told 67 = .ok (.ireturn, 1) := by decide +kernel
theorem dX6_told_68 : decode cX6_told 68 = .ok (.aload_n 0, 1) := by decide +kernel
theorem dX6_told_69 : decode cX6_told 69 = .ok (.getfield 23, 3) := by decide +kernel
theorem dX6_told_72 : decode cX6_told 72 = .ok (.getfield 62, 3) := by decide +kernel
theorem dX6_told_75 : decode cX6_told 75 = .ok (.getfield 72, 3) := by decide +kernel
theorem dX6_told_78 : decode cX6_told 78 = .ok (.ireturn, 1) := by decide +kernel
theorem dX6_told_79 : decode cX6_told 79 = .ok (.aload_n 0, 1) := by decide +kernel
theorem dX6_told_80 : decode cX6_told 80 = .ok (.getfield 23, 3) := by decide +kernel
theorem dX6_told_83 : decode cX6_told 83 = .ok (.getfield 78, 3) := by decide +kernel
theorem dX6_told_86 : decode cX6_told 86 = .ok (.ireturn, 1) := by decide +kernel
theorem dX6_told_87 : decode cX6_told 87 = .ok (.aload_n 0, 1) := by decide +kernel
theorem dX6_told_88 : decode cX6_told 88 = .ok (.getfield 23, 3) := by decide +kernel
theorem dX6_told_91 : decode cX6_told 91 = .ok (.getfield 81, 3) := by decide +kernel
theorem dX6_told_94 : decode cX6_told 94 = .ok (.ireturn, 1) := by decide +kernel
theorem dX6_told_95 : decode cX6_told 95 = .ok (.aload_n 0, 1) := by decide +kernel
theorem dX6_told_96 : decode cX6_told 96 = .ok (.getfield 23, 3) := by decide +kernel
theorem dX6_told_99 : decode cX6_told 99 = .ok (.invokevirtual 122, 3) := by decide +kernel
theorem dX6_told_102 : decode cX6_told 102 = .ok (.ireturn, 1) := by decide +kernel
theorem dX6_told_103 : decode cX6_told 103 = .ok (.iconst (-1), 1) := by decide +kernel
theorem dX6_told_104 : decode cX6_told 104 = .ok (.ireturn, 1) := by decide +kernel
set_option maxRecDepth 20000 in
theorem ggX6_markOf_X6_isWithin : GoodIn wsX6_markOf wsX6_isWithin := goodIn_r _ [5] (by decide +kernel) (by decide +kernel)
set_option maxRecDepth 20000 in
theorem gX6_markOf_X6_isWithin : GoodIn wsX6_markOf (va_wsS RX6 58 yX6_isWithin wsX6_isWithin) := goodIn_app (goodIn_of _ (by decide +kernel)) ggX6_markOf_X6_isWithin
set_option maxRecDepth 20000 in
theorem ggX6_markOf_X1_number : GoodIn wsX6_markOf wsX1_number := goodIn_r _ [10, 11, 12, 3, 4, 5, 30, 31] (by decide +kernel) (by decide +kernel)
set_option maxRecDepth 20000 in
theorem gX6_markOf_X1_number : GoodIn wsX6_markOf (wsV RX6 97 RX1 yX1_number wsX1_number) := goodIn_app (goodIn_of _ (by decide +kernel)) ggX6_markOf_X1_number
theorem dX6_markOf_0 : decode cX6_markOf 0 = .ok (.iload_n 1, 1) := by decide +kernel
theorem dX6_markOf_1 : decode cX6_markOf 1 = .ok (.iconst 0, 1) := by decide +kernel
theorem dX6_markOf_2 : decode cX6_markOf 2 = .ok (.aload_n 0, 1) := by decide +kernel
theorem dX6_markOf_3 : decode cX6_markOf 3 = .ok (.getfield 23, 3) := by decide +kernel
theorem dX6_markOf_6 : decode cX6_markOf 6 = .ok (.getfield 62, 3) := by decide +kernel
theorem dX6_markOf_9 : decode cX6_markOf 9 = .ok (.getfield 72, 3) := by decide +kernel
theorem dX6_markOf_12 : decode cX6_markOf 12 = .ok (.iconst 1, 1) := by decide +kernel
theorem dX6_markOf_13 : decode cX6_markOf 13 = .ok (.isub, 1) := by decide +kernel
theorem dX6_markOf_14 : decode cX6_markOf 14 = .ok (.invokestatic 58, 3) := by decide +kernel
theorem dX6_markOf_17 : decode cX6_markOf 17 = .ok (.ifCond .eq 12, 3) := by decide +kernel
theorem dX6_markOf_20 : decode cX6_markOf 20 = .ok (.iload_n 2, 1) := by decide +kernel
theorem dX6_markOf_21 : decode cX6_markOf 21 = .ok (.iconst 0, 1) := by decide +kernel
theorem dX6_markOf_22 : decode cX6_markOf 22 = .ok (.iconst 1, 1) := by decide +kernel
theorem dX6_markOf_23 : decode cX6_markOf 23 = .ok (.invokestatic 58, 3) := by decide +kernel
theorem dX6_markOf_26 : decode cX6_markOf 26 = .ok (.ifCond .ne 5, 3) := by decide +kernel
theorem dX6_markOf_29 : decode cX6_markOf 29 = .ok (.iconst (-1), 1) := by decide +kernel
theorem dX6_markOf_30 : decode cX6_markOf 30 = .ok (.ireturn, 1) := by decide +kernel
theorem dX6_markOf_31 : decode cX6_markOf 31 = .ok (.aload_n 0, 1) := by decide +kernel
theorem dX6_markOf_32 : decode cX6_markOf 32 = .ok (.getfield 23, 3) := by decide +kernel
theorem dX6_markOf_35 : decode cX6_markOf 35 = .ok (.getfield 62, 3) := by decide +kernel
theorem dX6_markOf_38 : decode cX6_markOf 38 = .ok (.iload_n 1, 1) := by decide +kernel
theorem dX6_markOf_39 : decode cX6_markOf 39 = .ok (.iload_n 2, 1) := by decide +kernel
theorem dX6_markOf_40 : decode cX6_markOf 40 = .ok (.invokevirtual 97, 3) := by decide +kernel
theorem dX6_markOf_43 : decode cX6_markOf 43 = .ok (.ireturn, 1) := by decide +kernel
set_option maxRecDepth 20000 in
theorem ggX6_at_X6_isRow : GoodIn wsX6_at wsX6_isRow := goodIn_r _ [5, 6, 7, 4, 8] (by decide +kernel) (by decide +kernel)
set_option maxRecDepth 20000 in
theorem gX6_at_X6_isRow : GoodIn wsX6_at (va_wsS RX6 125 yX6_isRow wsX6_isRow) := goodIn_app (goodIn_of _ (by decide +kernel)) ggX6_at_X6_isRow
set_option maxRecDepth 20000 in
theorem ggX6_at_X3_remainder : GoodIn wsX6_at wsX3_remainder := goodIn_r _ [13, 14, 15, 16, 17, 18, 19, 20, 21, 22, 23, 24, 25, 33, 34, 35, 36, 37, 38, 39, 40, 41, 42, 43] (by decide +kernel) (by decide +kernel)
set_option maxRecDepth 20000 in
theorem gX6_at_X3_remainder : GoodIn wsX6_at (wsV RX6 129 RX3 yX3_remainder wsX3_remainder) := goodIn_app (goodIn_of _ (by decide +kernel)) ggX6_at_X3_remainder
theorem dX6_at_0 : decode cX6_at 0 = .ok (.iload_n 1, 1) := by decide +kernel
theorem dX6_at_1 : decode cX6_at 1 = .ok (.invokestatic 125, 3) := by decide +kernel
theorem dX6_at_4 : decode cX6_at 4 = .ok (.ifCond .eq 15, 3) := by decide +kernel
theorem dX6_at_7 : decode cX6_at 7 = .ok (.aload_n 0, 1) := by decide +kernel
theorem dX6_at_8 : decode cX6_at 8 = .ok (.getfield 23, 3) := by decide +kernel
theorem dX6_at_11 : decode cX6_at 11 = .ok (.iload_n 1, 1) := by decide +kernel
theorem dX6_at_12 : decode cX6_at 12 = .ok (.iload_n 2, 1) := by decide +kernel
theorem dX6_at_13 : decode cX6_at 13 = .ok (.invokevirtual 129, 3) := by decide +kernel
theorem dX6_at_16 : decode cX6_at 16 = .ok (.goto 4, 3) := by decide +kernel
theorem dX6_at_19 : decode cX6_at 19 = .ok (.iconst (-1), 1) := by decide +kernel
theorem dX6_at_20 : decode cX6_at 20 = .ok (.ireturn, 1) := by decide +kernel
set_option maxRecDepth 20000 in
theorem ggX6_rule_X6_isWithin : GoodIn wsX6_rule wsX6_isWithin := goodIn_r _ [5] (by decide +kernel) (by decide +kernel)
set_option maxRecDepth 20000 in
theorem gX6_rule_X6_isWithin : GoodIn wsX6_rule (va_wsS RX6 58 yX6_isWithin wsX6_isWithin) := goodIn_app (goodIn_of _ (by decide +kernel)) ggX6_rule_X6_isWithin
set_option maxRecDepth 20000 in
theorem ggX6_rule_X6_isPlace : GoodIn wsX6_rule wsX6_isPlace := goodIn_r _ [8, 9, 10, 4, 11, 2, 3, 5] (by decide +kernel) (by decide +kernel)
set_option maxRecDepth 20000 in
theorem gX6_rule_X6_isPlace : GoodIn wsX6_rule (va_wsS RX6 132 yX6_isPlace wsX6_isPlace) := goodIn_app (goodIn_of _ (by decide +kernel)) ggX6_rule_X6_isPlace
set_option maxRecDepth 20000 in
theorem ggX6_rule_X3_tell : GoodIn wsX6_rule wsX3_tell := goodIn_r _ [16, 17, 18, 19, 20, 21, 22, 23, 24, 25, 26, 27, 28, 29, 30, 31, 32, 33, 34, 35, 36, 37, 38, 39, 40, 41, 42, 43, 51, 52, 53, 54, 55, 56, 57, 58, 59, 60, 61] (by decide +kernel) (by decide +kernel)
set_option maxRecDepth 20000 in
theorem gX6_rule_X3_tell : GoodIn wsX6_rule (wsV RX6 136 RX3 yX3_tell wsX3_tell) := goodIn_app (goodIn_of _ (by decide +kernel)) ggX6_rule_X3_tell
theorem dX6_rule_0 : decode cX6_rule 0 = .ok (.iload_n 1, 1) := by decide +kernel
theorem dX6_rule_1 : decode cX6_rule 1 = .ok (.iconst 0, 1) := by decide +kernel
theorem dX6_rule_2 : decode cX6_rule 2 = .ok (.iconst 4, 1) := by decide +kernel
theorem dX6_rule_3 : decode cX6_rule 3 = .ok (.invokestatic 58, 3) := by decide +kernel
theorem dX6_rule_6 : decode cX6_rule 6 = .ok (.ifCond .eq 11, 3) := by decide +kernel
theorem dX6_rule_9 : decode cX6_rule 9 = .ok (.iload_n 2, 1) := by decide +kernel
theorem dX6_rule_10 : decode cX6_rule 10 = .ok (.iload_n 3, 1) := by decide +kernel
theorem dX6_rule_11 : decode cX6_rule 11 = .ok (.invokestatic 132, 3) := by decide +kernel
theorem dX6_rule_14 : decode cX6_rule 14 = .ok (.ifCond .ne 5, 3) := by decide +kernel
theorem dX6_rule_17 : decode cX6_rule 17 = .ok (.iconst (-1), 1) := by decide +kernel
theorem dX6_rule_18 : decode cX6_rule 18 = .ok (.ireturn, 1) := by decide +kernel
theorem dX6_rule_19 : decode cX6_rule 19 = .ok (.aload_n 0, 1) := by decide +kernel
theorem dX6_rule_20 : decode cX6_rule 20 = .ok (.getfield 23, 3) := by decide +kernel
theorem dX6_rule_23 : decode cX6_rule 23 = .ok (.iload_n 1, 1) := by decide +kernel
theorem dX6_rule_24 : decode cX6_rule 24 = .ok (.iload_n 2, 1) := by decide +kernel
theorem dX6_rule_25 : decode cX6_rule 25 = .ok (.iload_n 3, 1) := by decide +kernel
theorem dX6_rule_26 : decode cX6_rule 26 = .ok (.invokevirtual 136, 3) := by decide +kernel
theorem dX6_rule_29 : decode cX6_rule 29 = .ok (.ireturn, 1) := by decide +kernel
set_option maxRecDepth 20000 in
theorem ggX6_marked_X6_isPlace : GoodIn wsX6_marked wsX6_isPlace := goodIn_r _ [5, 6, 7, 4, 8, 9, 10, 11] (by decide +kernel) (by decide +kernel)
set_option maxRecDepth 20000 in
theorem gX6_marked_X6_isPlace : GoodIn wsX6_marked (va_wsS RX6 132 yX6_isPlace wsX6_isPlace) := goodIn_app (goodIn_of _ (by decide +kernel)) ggX6_marked_X6_isPlace
set_option maxRecDepth 20000 in
theorem ggX6_marked_X3_isMarked : GoodIn wsX6_marked wsX3_isMarked := goodIn_r _ [16, 17, 3, 4, 5, 6, 7, 8, 9, 10, 11, 18, 19, 20, 21, 22, 23, 24, 25, 26, 27, 15, 28, 29, 30, 31, 32, 33, 34, 35, 36, 37, 38, 39, 40, 41, 42, 43, 44, 45, 46, 47, 48, 49, 50, 51, 52, 53, 54, 55, 63, 64, 65, 66, 67, 68, 69, 70, 71, 72, 73, 74, 75] (by decide +kernel) (by decide +kernel)
set_option maxRecDepth 20000 in
theorem gX6_marked_X3_isMarked : GoodIn wsX6_marked (wsV RX6 139 RX3 yX3_isMarked wsX3_isMarked) := goodIn_app (goodIn_of _ (by decide +kernel)) ggX6_marked_X3_isMarked
theorem dX6_marked_0 : decode cX6_marked 0 = .ok (.iload_n 1, 1) := by decide +kernel
theorem dX6_marked_1 : decode cX6_marked 1 = .ok (.iload_n 2, 1) := by decide +kernel
theorem dX6_marked_2 : decode cX6_marked 2 = .ok (.invokestatic 132, 3) := by decide +kernel
theorem dX6_marked_5 : decode cX6_marked 5 = .ok (.ifCond .ne 5, 3) := by decide +kernel
theorem dX6_marked_8 : decode cX6_marked 8 = .ok (.iconst (-1), 1) := by decide +kernel
theorem dX6_marked_9 : decode cX6_marked 9 = .ok (.ireturn, 1) := by decide +kernel
theorem dX6_marked_10 : decode cX6_marked 10 = .ok (.aload_n 0, 1) := by decide +kernel
theorem dX6_marked_11 : decode cX6_marked 11 = .ok (.getfield 23, 3) := by decide +kernel
theorem dX6_marked_14 : decode cX6_marked 14 = .ok (.iload_n 1, 1) := by decide +kernel
theorem dX6_marked_15 : decode cX6_marked 15 = .ok (.iload_n 2, 1) := by decide +kernel
theorem dX6_marked_16 : decode cX6_marked 16 = .ok (.invokevirtual 139, 3) := by decide +kernel
theorem dX6_marked_19 : decode cX6_marked 19 = .ok (.ifCond .eq 7, 3) := by decide +kernel
theorem dX6_marked_22 : decode cX6_marked 22 = .ok (.iconst 1, 1) := by decide +kernel
theorem dX6_marked_23 : decode cX6_marked 23 = .ok (.goto 4, 3) := by decide +kernel
theorem dX6_marked_26 : decode cX6_marked 26 = .ok (.iconst 0, 1) := by decide +kernel
theorem dX6_marked_27 : decode cX6_marked 27 = .ok (.ireturn, 1) := by decide +kernel
set_option maxRecDepth 20000 in
theorem ggX6_digit_X6_isWithin : GoodIn wsX6_digit wsX6_isWithin := goodIn_r _ [5] (by decide +kernel) (by decide +kernel)
set_option maxRecDepth 20000 in
theorem gX6_digit_X6_isWithin : GoodIn wsX6_digit (va_wsS RX6 58 yX6_isWithin wsX6_isWithin) := goodIn_app (goodIn_of _ (by decide +kernel)) ggX6_digit_X6_isWithin
set_option maxRecDepth 20000 in
theorem ggX6_digit_X0_howMany : GoodIn wsX6_digit wsX0_howMany := goodIn_r _ [9] (by decide +kernel) (by decide +kernel)
set_option maxRecDepth 20000 in
theorem gX6_digit_X0_howMany : GoodIn wsX6_digit (va_wsS RX6 142 yX0_howMany wsX0_howMany) := goodIn_app (goodIn_of _ (by decide +kernel)) ggX6_digit_X0_howMany
set_option maxRecDepth 20000 in
theorem ggX6_digit_X0_one : GoodIn wsX6_digit wsX0_one := goodIn_r _ [12] (by decide +kernel) (by decide +kernel)
set_option maxRecDepth 20000 in
theorem gX6_digit_X0_one : GoodIn wsX6_digit (va_wsS RX6 147 yX0_one wsX0_one) := goodIn_app (goodIn_of _ (by decide +kernel)) ggX6_digit_X0_one
theorem dX6_digit_0 : decode cX6_digit 0 = .ok (.iload_n 1, 1) := by decide +kernel
theorem dX6_digit_1 : decode cX6_digit 1 = .ok (.iconst 0, 1) := by decide +kernel
theorem dX6_digit_2 : decode cX6_digit 2 = .ok (.sipush 9999, 3) := by decide +kernel
theorem dX6_digit_5 : decode cX6_digit 5 = .ok (.invokestatic 58, 3) := by decide +kernel
theorem dX6_digit_8 : decode cX6_digit 8 = .ok (.ifCond .ne 6, 3) := by decide +kernel
theorem dX6_digit_11 : decode cX6_digit 11 = .ok (.bipush (-2), 2) := by decide +kernel
theorem dX6_digit_13 : decode cX6_digit 13 = .ok (.ireturn, 1) := by decide +kernel
theorem dX6_digit_14 : decode cX6_digit 14 = .ok (.iload_n 2, 1) := by decide +kernel
theorem dX6_digit_15 : decode cX6_digit 15 = .ok (.iconst (-1), 1) := by decide +kernel
theorem dX6_digit_16 : decode cX6_digit 16 = .ok (.if_icmp .ge 5, 3) := by decide +kernel
theorem dX6_digit_19 : decode cX6_digit 19 = .ok (.iconst (-1), 1) := by decide +kernel
theorem dX6_digit_20 : decode cX6_digit 20 = .ok (.ireturn, 1) := by decide +kernel
theorem dX6_digit_21 : decode cX6_digit 21 = .ok (.aload_n 0, 1) := by decide +kernel
theorem dX6_digit_22 : decode cX6_digit 22 = .ok (.getfield 23, 3) := by decide +kernel
theorem dX6_digit_25 : decode cX6_digit 25 = .ok (.getfield 47, 3) := by decide +kernel
theorem dX6_digit_28 : decode cX6_digit 28 = .ok (.iload_n 1, 1) := by decide +kernel
theorem dX6_digit_29 : decode cX6_digit 29 = .ok (.invokestatic 142, 3) := by decide +kernel
theorem dX6_digit_32 : decode cX6_digit 32 = .ok (.istore_n 3, 1) := by decide +kernel
theorem dX6_digit_33 : decode cX6_digit 33 = .ok (.iload_n 2, 1) := by decide +kernel
theorem dX6_digit_34 : decode cX6_digit 34 = .ok (.iconst (-1), 1) := by decide +kernel
theorem dX6_digit_35 : decode cX6_digit 35 = .ok (.if_icmp .ne 5, 3) := by decide +kernel
theorem dX6_digit_38 : decode cX6_digit 38 = .ok (.iload_n 3, 1) := by decide +kernel
theorem dX6_digit_39 : decode cX6_digit 39 = .ok (.ireturn, 1) := by decide +kernel
theorem dX6_digit_40 : decode cX6_digit 40 = .ok (.iload_n 2, 1) := by decide +kernel
theorem dX6_digit_41 : decode cX6_digit 41 = .ok (.iload_n 3, 1) := by decide +kernel
theorem dX6_digit_42 : decode cX6_digit 42 = .ok (.if_icmp .ge 18, 3) := by decide +kernel
theorem dX6_digit_45 : decode cX6_digit 45 = .ok (.aload_n 0, 1) := by decide +kernel
theorem dX6_digit_46 : decode cX6_digit 46 = .ok (.getfield 23, 3) := by decide +kernel
theorem dX6_digit_49 : decode cX6_digit 49 = .ok (.getfield 47, 3) := by decide +kernel
theorem dX6_digit_52 : decode cX6_digit 52 = .ok (.iload_n 1, 1) := by decide +kernel
theorem dX6_digit_53 : decode cX6_digit 53 = .ok (.iload_n 2, 1) := by decide +kernel
theorem dX6_digit_54 : decode cX6_digit 54 = .ok (.invokestatic 147, 3) := by decide +kernel
theorem dX6_digit_57 : decode cX6_digit 57 = .ok (.goto 5, 3) := by decide +kernel
theorem dX6_digit_60 : decode cX6_digit 60 = .ok (.bipush (-5), 2) := by decide +kernel
theorem dX6_digit_62 : decode cX6_digit 62 = .ok (.ireturn, 1) := by decide +kernel
set_option maxRecDepth 20000 in
theorem ggX6_pure_X6_isWithin : GoodIn wsX6_pure wsX6_isWithin := goodIn_r _ [5] (by decide +kernel) (by decide +kernel)
set_option maxRecDepth 20000 in
theorem gX6_pure_X6_isWithin : GoodIn wsX6_pure (va_wsS RX6 58 yX6_isWithin wsX6_isWithin) := goodIn_app (goodIn_of _ (by decide +kernel)) ggX6_pure_X6_isWithin
set_option maxRecDepth 20000 in
theorem ggX6_pure_X0_withoutPrime : GoodIn wsX6_pure wsX0_withoutPrime := goodIn_r _ [9] (by decide +kernel) (by decide +kernel)
set_option maxRecDepth 20000 in
theorem gX6_pure_X0_withoutPrime : GoodIn wsX6_pure (va_wsS RX6 150 yX0_withoutPrime wsX0_withoutPrime) := goodIn_app (goodIn_of _ (by decide +kernel)) ggX6_pure_X0_withoutPrime
set_option maxRecDepth 20000 in
theorem ggX6_pure_X0_timesDivided : GoodIn wsX6_pure wsX0_timesDivided := goodIn_r _ [12] (by decide +kernel) (by decide +kernel)
set_option maxRecDepth 20000 in
theorem gX6_pure_X0_timesDivided : GoodIn wsX6_pure (va_wsS RX6 153 yX0_timesDivided wsX0_timesDivided) := goodIn_app (goodIn_of _ (by decide +kernel)) ggX6_pure_X0_timesDivided
theorem dX6_pure_0 : decode cX6_pure 0 = .ok (.iload_n 1, 1) := by decide +kernel
theorem dX6_pure_1 : decode cX6_pure 1 = .ok (.iconst 1, 1) := by decide +kernel
theorem dX6_pure_2 : decode cX6_pure 2 = .ok (.sipush 9999, 3) := by decide +kernel
theorem dX6_pure_5 : decode cX6_pure 5 = .ok (.invokestatic 58, 3) := by decide +kernel
theorem dX6_pure_8 : decode cX6_pure 8 = .ok (.ifCond .ne 6, 3) := by decide +kernel
theorem dX6_pure_11 : decode cX6_pure 11 = .ok (.bipush (-2), 2) := by decide +kernel
theorem dX6_pure_13 : decode cX6_pure 13 = .ok (.ireturn, 1) := by decide +kernel
theorem dX6_pure_14 : decode cX6_pure 14 = .ok (.iload_n 2, 1) := by decide +kernel
theorem dX6_pure_15 : decode cX6_pure 15 = .ok (.iconst 0, 1) := by decide +kernel
theorem dX6_pure_16 : decode cX6_pure 16 = .ok (.iconst 1, 1) := by decide +kernel
theorem dX6_pure_17 : decode cX6_pure 17 = .ok (.invokestatic 58, 3) := by decide +kernel
theorem dX6_pure_20 : decode cX6_pure 20 = .ok (.ifCond .ne 5, 3) := by decide +kernel
theorem dX6_pure_23 : decode cX6_pure 23 = .ok (.iconst (-1), 1) := by decide +kernel
theorem dX6_pure_24 : decode cX6_pure 24 = .ok (.ireturn, 1) := by decide +kernel
theorem dX6_pure_25 : decode cX6_pure 25 = .ok (.iload_n 2, 1) := by decide +kernel
theorem dX6_pure_26 : decode cX6_pure 26 = .ok (.ifCond .ne 17, 3) := by decide +kernel
theorem dX6_pure_29 : decode cX6_pure 29 = .ok (.aload_n 0, 1) := by decide +kernel
theorem dX6_pure_30 : decode cX6_pure 30 = .ok (.getfield 23, 3) := by decide +kernel
theorem dX6_pure_33 : decode cX6_pure 33 = .ok (.getfield 47, 3) := by decide +kernel
theorem dX6_pure_36 : decode cX6_pure 36 = .ok (.iload_n 1, 1) := by decide +kernel
theorem dX6_pure_37 : decode cX6_pure 37 = .ok (.invokestatic 150, 3) := by decide +kernel
theorem dX6_pure_40 : decode cX6_pure 40 = .ok (.goto 14, 3) := by decide +kernel
theorem dX6_pure_43 : decode cX6_pure 43 = .ok (.aload_n 0, 1) := by decide +kernel
theorem dX6_pure_44 : decode cX6_pure 44 = .ok (.getfield 23, 3) := by decide +kernel
theorem dX6_pure_47 : decode cX6_pure 47 = .ok (.getfield 47, 3) := by decide +kernel
theorem dX6_pure_50 : decode cX6_pure 50 = .ok (.iload_n 1, 1) := by decide +kernel
theorem dX6_pure_51 : decode cX6_pure 51 = .ok (.invokestatic 153, 3) := by decide +kernel
theorem dX6_pure_54 : decode cX6_pure 54 = .ok (.ireturn, 1) := by decide +kernel
set_option maxRecDepth 20000 in
theorem ggX6_counted_X6_isRow : GoodIn wsX6_counted wsX6_isRow := goodIn_r _ [4, 5, 6, 3, 7] (by decide +kernel) (by decide +kernel)
set_option maxRecDepth 20000 in
theorem gX6_counted_X6_isRow : GoodIn wsX6_counted (va_wsS RX6 125 yX6_isRow wsX6_isRow) := goodIn_app (goodIn_of _ (by decide +kernel)) ggX6_counted_X6_isRow
set_option maxRecDepth 20000 in
theorem ggX6_counted_X6_countOf : GoodIn wsX6_counted wsX6_countOf := goodIn_r _ [11, 12, 13, 14, 15, 16, 17, 18, 19, 20, 21, 22, 23, 24, 25, 26, 27, 28, 29, 30, 31, 32, 33, 34, 35, 36, 37, 38, 39, 40, 41, 42, 43, 44, 45, 46, 47] (by decide +kernel) (by decide +kernel)
set_option maxRecDepth 20000 in
theorem gX6_counted_X6_countOf : GoodIn wsX6_counted (wsV RX6 156 RX6 yX6_countOf wsX6_countOf) := goodIn_app (goodIn_of _ (by decide +kernel)) ggX6_counted_X6_countOf
theorem dX6_counted_0 : decode cX6_counted 0 = .ok (.iload_n 1, 1) := by decide +kernel
theorem dX6_counted_1 : decode cX6_counted 1 = .ok (.invokestatic 125, 3) := by decide +kernel
theorem dX6_counted_4 : decode cX6_counted 4 = .ok (.ifCond .eq 12, 3) := by decide +kernel
theorem dX6_counted_7 : decode cX6_counted 7 = .ok (.aload_n 0, 1) := by decide +kernel
theorem dX6_counted_8 : decode cX6_counted 8 = .ok (.iload_n 1, 1) := by decide +kernel
theorem dX6_counted_9 : decode cX6_counted 9 = .ok (.iload_n 2, 1) := by decide +kernel
theorem dX6_counted_10 : decode cX6_counted 10 = .ok (.invokevirtual 156, 3) := by decide +kernel
theorem dX6_counted_13 : decode cX6_counted 13 = .ok (.goto 4, 3) := by decide +kernel
theorem dX6_counted_16 : decode cX6_counted 16 = .ok (.iconst (-1), 1) := by decide +kernel
theorem dX6_counted_17 : decode cX6_counted 17 = .ok (.ireturn, 1) := by decide +kernel
set_option maxRecDepth 20000 in
theorem ggX6_row_X6_isRow : GoodIn wsX6_row wsX6_isRow := goodIn_r _ [4, 5, 6, 3, 7] (by decide +kernel) (by decide +kernel)
set_option maxRecDepth 20000 in
theorem gX6_row_X6_isRow : GoodIn wsX6_row (va_wsS RX6 125 yX6_isRow wsX6_isRow) := goodIn_app (goodIn_of _ (by decide +kernel)) ggX6_row_X6_isRow
set_option maxRecDepth 20000 in
theorem ggX6_row_X6_kindsOf : GoodIn wsX6_row wsX6_kindsOf := goodIn_r _ [11, 12, 13, 14, 3, 15, 16, 17, 18, 19, 20, 21, 22, 23, 24, 25, 26, 27, 28, 29, 30, 31, 32, 33, 58, 59, 60, 61, 62, 63, 64, 65, 66, 67, 68, 69, 70, 71, 72, 73, 74, 75] (by decide +kernel) (by decide +kernel)
set_option maxRecDepth 20000 in
theorem gX6_row_X6_kindsOf : GoodIn wsX6_row (wsV RX6 159 RX6 yX6_kindsOf wsX6_kindsOf) := goodIn_app (goodIn_of _ (by decide +kernel)) ggX6_row_X6_kindsOf
set_option maxRecDepth 20000 in
theorem ggX6_row_X6_usualOf : GoodIn wsX6_row wsX6_usualOf := goodIn_r _ [37, 12, 13, 14, 3, 15, 16, 17, 18, 19, 20, 21, 22, 23, 24, 25, 26, 27, 28, 29, 30, 31, 32, 33, 38, 39, 40, 41, 58, 59, 60, 61, 62, 63, 64, 65, 66, 67, 68, 69, 70, 71, 72, 73, 74, 75] (by decide +kernel) (by decide +kernel)
set_option maxRecDepth 20000 in
theorem gX6_row_X6_usualOf : GoodIn wsX6_row (wsV RX6 162 RX6 yX6_usualOf wsX6_usualOf) := goodIn_app (goodIn_of _ (by decide +kernel)) ggX6_row_X6_usualOf
set_option maxRecDepth 20000 in
theorem ggX6_row_X6_sumOf : GoodIn wsX6_row wsX6_sumOf := goodIn_r _ [45, 16, 17, 18, 19, 20, 21, 22, 23, 24, 25, 26, 27, 28, 29, 30, 31, 32, 33, 58, 59, 60, 61, 62, 63, 64, 65, 66, 67, 68, 69, 70, 71, 72, 73, 74, 75] (by decide +kernel) (by decide +kernel)
set_option maxRecDepth 20000 in
theorem gX6_row_X6_sumOf : GoodIn wsX6_row (wsV RX6 165 RX6 yX6_sumOf wsX6_sumOf) := goodIn_app (goodIn_of _ (by decide +kernel)) ggX6_row_X6_sumOf
set_option maxRecDepth 20000 in
theorem ggX6_row_X6_depthOf : GoodIn wsX6_row wsX6_depthOf := goodIn_r _ [49, 16, 50, 51, 52, 53, 54, 55, 56, 57, 58, 59, 60, 61, 62, 63, 64, 65, 66, 67, 68, 69, 70, 71, 72, 73, 74] (by decide +kernel) (by decide +kernel)
set_option maxRecDepth 20000 in
theorem gX6_row_X6_depthOf : GoodIn wsX6_row (wsV RX6 168 RX6 yX6_depthOf wsX6_depthOf) := goodIn_app (goodIn_of _ (by decide +kernel)) ggX6_row_X6_depthOf
theorem dX6_row_0 : decode cX6_row 0 = .ok (.iload_n 1, 1) := by decide +kernel
theorem dX6_row_1 : decode cX6_row 1 = .ok (.invokestatic 125, 3) := by decide +kernel
theorem dX6_row_4 : decode cX6_row 4 = .ok (.ifCond .ne 5, 3) := by decide +kernel
theorem dX6_row_7 : decode cX6_row 7 = .ok (.iconst (-1), 1) := by decide +kernel
theorem dX6_row_8 : decode cX6_row 8 = .ok (.ireturn, 1) := by decide +kernel
theorem dX6_row_9 : decode cX6_row 9 = .ok (.iload_n 2, 1) := by decide +kernel
theorem dX6_row_10 : decode cX6_row 10 = .ok (.tableswitch 54 0 3 #[30, 36, 42, 48], 30) := by decide +kernel
theorem dX6_row_40 : decode cX6_row 40 = .ok (.aload_n 0, 1) := by decide +kernel
theorem dX6_row_41 : decode cX6_row 41 = .ok (.iload_n 1, 1) := by decide +kernel
theorem dX6_row_42 : decode cX6_row 42 = .ok (.invokevirtual 159, 3) := by decide +kernel
theorem dX6_row_45 : decode cX6_row 45 = .ok (.ireturn, 1) := by decide +kernel
theorem dX6_row_46 : decode cX6_row 46 = .ok (.aload_n 0, 1) := by decide +kernel
theorem dX6_row_47 : decode cX6_row 47 = .ok (.iload_n 1, 1) := by decide +kernel
theorem dX6_row_48 : decode cX6_row 48 = .ok (.invokevirtual 162, 3) := by decide +kernel
theorem dX6_row_51 : decode cX6_row 51 = .ok (.ireturn, 1) := by decide +kernel
theorem dX6_row_52 : decode cX6_row 52 = .ok (.aload_n 0, 1) := by decide +kernel
theorem dX6_row_53 : decode cX6_row 53 = .ok (.iload_n 1, 1) := by decide +kernel
theorem dX6_row_54 : decode cX6_row 54 = .ok (.invokevirtual 165, 3) := by decide +kernel
theorem dX6_row_57 : decode cX6_row 57 = .ok (.ireturn, 1) := by decide +kernel
theorem dX6_row_58 : decode cX6_row 58 = .ok (.aload_n 0, 1) := by decide +kernel
theorem dX6_row_59 : decode cX6_row 59 = .ok (.iload_n 1, 1) := by decide +kernel
theorem dX6_row_60 : decode cX6_row 60 = .ok (.invokevirtual 168, 3) := by decide +kernel
theorem dX6_row_63 : decode cX6_row 63 = .ok (.ireturn, 1) := by decide +kernel
theorem dX6_row_64 : decode cX6_row 64 = .ok (.iconst (-1), 1) := by decide +kernel
theorem dX6_row_65 : decode cX6_row 65 = .ok (.ireturn, 1) := by decide +kernel
set_option maxRecDepth 20000 in
theorem ggX6_kind_X6_isRow : GoodIn wsX6_kind wsX6_isRow := goodIn_r _ [4, 5, 6, 3, 7] (by decide +kernel) (by decide +kernel)
set_option maxRecDepth 20000 in
theorem gX6_kind_X6_isRow : GoodIn wsX6_kind (va_wsS RX6 125 yX6_isRow wsX6_isRow) := goodIn_app (goodIn_of _ (by decide +kernel)) ggX6_kind_X6_isRow
set_option maxRecDepth 20000 in
theorem ggX6_kind_X6_nextKind : GoodIn wsX6_kind wsX6_nextKind := goodIn_r _ [11, 12, 13, 14, 15, 16, 17, 18, 19, 20, 21, 22, 23, 24, 25, 26, 27, 28, 29, 30, 31, 32, 33, 34, 35, 36, 37, 38, 39, 40, 41, 42, 43, 44, 45, 46, 47] (by decide +kernel) (by decide +kernel)
set_option maxRecDepth 20000 in
theorem gX6_kind_X6_nextKind : GoodIn wsX6_kind (wsV RX6 171 RX6 yX6_nextKind wsX6_nextKind) := goodIn_app (goodIn_of _ (by decide +kernel)) ggX6_kind_X6_nextKind
theorem dX6_kind_0 : decode cX6_kind 0 = .ok (.iload_n 1, 1) := by decide +kernel
theorem dX6_kind_1 : decode cX6_kind 1 = .ok (.invokestatic 125, 3) := by decide +kernel
theorem dX6_kind_4 : decode cX6_kind 4 = .ok (.ifCond .eq 7, 3) := by decide +kernel
theorem dX6_kind_7 : decode cX6_kind 7 = .ok (.iload_n 2, 1) := by decide +kernel
theorem dX6_kind_8 : decode cX6_kind 8 = .ok (.ifCond .ge 5, 3) := by decide +kernel
theorem dX6_kind_11 : decode cX6_kind 11 = .ok (.iconst (-1), 1) := by decide +kernel
theorem dX6_kind_12 : decode cX6_kind 12 = .ok (.ireturn, 1) := by decide +kernel
theorem dX6_kind_13 : decode cX6_kind 13 = .ok (.iconst (-1), 1) := by decide +kernel
theorem dX6_kind_14 : decode cX6_kind 14 = .ok (.istore_n 3, 1) := by decide +kernel
theorem dX6_kind_15 : decode cX6_kind 15 = .ok (.iconst 0, 1) := by decide +kernel
theorem dX6_kind_16 : decode cX6_kind 16 = .ok (.istore 4, 2) := by decide +kernel
theorem dX6_kind_18 : decode cX6_kind 18 = .ok (.iload 4, 2) := by decide +kernel
theorem dX6_kind_20 : decode cX6_kind 20 = .ok (.iload_n 2, 1) := by decide +kernel
theorem dX6_kind_21 : decode cX6_kind 21 = .ok (.if_icmp .gt 32, 3) := by decide +kernel
theorem dX6_kind_24 : decode cX6_kind 24 = .ok (.iload 4, 2) := by decide +kernel
theorem dX6_kind_26 : decode cX6_kind 26 = .ok (.iload_n 1, 1) := by decide +kernel
theorem dX6_kind_27 : decode cX6_kind 27 = .ok (.iconst 1, 1) := by decide +kernel
theorem dX6_kind_28 : decode cX6_kind 28 = .ok (.iadd, 1) := by decide +kernel
theorem dX6_kind_29 : decode cX6_kind 29 = .ok (.if_icmp .gt 24, 3) := by decide +kernel
theorem dX6_kind_32 : decode cX6_kind 32 = .ok (.aload_n 0, 1) := by decide +kernel
theorem dX6_kind_33 : decode cX6_kind 33 = .ok (.iload_n 1, 1) := by decide +kernel
theorem dX6_kind_34 : decode cX6_kind 34 = .ok (.iload_n 3, 1) := by decide +kernel
theorem dX6_kind_35 : decode cX6_kind 35 = .ok (.invokevirtual 171, 3) := by decide +kernel
theorem dX6_kind_38 : decode cX6_kind 38 = .ok (.istore_n 3, 1) := by decide +kernel
theorem dX6_kind_39 : decode cX6_kind 39 = .ok (.iload_n 3, 1) := by decide +kernel
theorem dX6_kind_40 : decode cX6_kind 40 = .ok (.iconst (-1), 1) := by decide +kernel
theorem dX6_kind_41 : decode cX6_kind 41 = .ok (.if_icmp .ne 6, 3) := by decide +kernel
theorem dX6_kind_44 : decode cX6_kind 44 = .ok (.bipush (-5), 2) := by decide +kernel
theorem dX6_kind_46 : decode cX6_kind 46 = .ok (.ireturn, 1) := by decide +kernel
theorem dX6_kind_47 : decode cX6_kind 47 = .ok (.iinc 4 1, 3) := by decide +kernel
theorem dX6_kind_50 : decode cX6_kind 50 = .ok (.goto (-32), 3) := by decide +kernel
theorem dX6_kind_53 : decode cX6_kind 53 = .ok (.iload_n 3, 1) := by decide +kernel
theorem dX6_kind_54 : decode cX6_kind 54 = .ok (.ireturn, 1) := by decide +kernel
set_option maxRecDepth 20000 in
theorem ggX6_upTo_X6_isRow : GoodIn wsX6_upTo wsX6_isRow := goodIn_r _ [4, 5, 6, 3, 7] (by decide +kernel) (by decide +kernel)
set_option maxRecDepth 20000 in
theorem gX6_upTo_X6_isRow : GoodIn wsX6_upTo (va_wsS RX6 125 yX6_isRow wsX6_isRow) := goodIn_app (goodIn_of _ (by decide +kernel)) ggX6_upTo_X6_isRow
set_option maxRecDepth 20000 in
theorem ggX6_upTo_X6_fullRows : GoodIn wsX6_upTo wsX6_fullRows := goodIn_r _ [11, 12, 13, 14, 3, 15, 16, 17, 18, 19, 20, 21, 22, 23, 24, 25, 26, 27, 28, 29, 30, 31, 32, 33, 42, 43, 44, 45, 46, 47, 48, 49, 50, 51, 52, 53, 54, 55, 56, 57, 58, 59] (by decide +kernel) (by decide +kernel)
set_option maxRecDepth 20000 in
theorem gX6_upTo_X6_fullRows : GoodIn wsX6_upTo (wsV RX6 174 RX6 yX6_fullRows wsX6_fullRows) := goodIn_app (goodIn_of _ (by decide +kernel)) ggX6_upTo_X6_fullRows
set_option maxRecDepth 20000 in
theorem ggX6_upTo_X6_lastFullRow : GoodIn wsX6_upTo wsX6_lastFullRow := goodIn_r _ [37, 12, 13, 14, 3, 15, 16, 17, 18, 19, 20, 21, 22, 23, 24, 25, 26, 27, 28, 29, 30, 31, 32, 33, 42, 43, 44, 45, 46, 47, 48, 49, 50, 51, 52, 53, 54, 55, 56, 57, 58, 59] (by decide +kernel) (by decide +kernel)
set_option maxRecDepth 20000 in
theorem gX6_upTo_X6_lastFullRow : GoodIn wsX6_upTo (wsV RX6 177 RX6 yX6_lastFullRow wsX6_lastFullRow) := goodIn_app (goodIn_of _ (by decide +kernel)) ggX6_upTo_X6_lastFullRow
set_option maxRecDepth 20000 in
theorem ggX6_upTo_X6_heaviestRow : GoodIn wsX6_upTo wsX6_heaviestRow := goodIn_r _ [41, 12, 13, 14, 3, 15, 16, 17, 18, 19, 20, 21, 22, 23, 24, 25, 26, 27, 28, 29, 30, 31, 32, 33, 42, 43, 44, 45, 46, 47, 48, 49, 50, 51, 52, 53, 54, 55, 56, 57, 58, 59] (by decide +kernel) (by decide +kernel)
set_option maxRecDepth 20000 in
theorem gX6_upTo_X6_heaviestRow : GoodIn wsX6_upTo (wsV RX6 180 RX6 yX6_heaviestRow wsX6_heaviestRow) := goodIn_app (goodIn_of _ (by decide +kernel)) ggX6_upTo_X6_heaviestRow
theorem dX6_upTo_0 : decode cX6_upTo 0 = .ok (.iload_n 1, 1) := by decide +kernel
theorem dX6_upTo_1 : decode cX6_upTo 1 = .ok (.invokestatic 125, 3) := by decide +kernel
theorem dX6_upTo_4 : decode cX6_upTo 4 = .ok (.ifCond .ne 5, 3) := by decide +kernel
theorem dX6_upTo_7 : decode cX6_upTo 7 = .ok (.iconst (-1), 1) := by decide +kernel
theorem dX6_upTo_8 : decode cX6_upTo 8 = .ok (.ireturn, 1) := by decide +kernel
theorem dX6_upTo_9 : decode cX6_upTo 9 = .ok (.iload_n 2, 1) := by decide +kernel
theorem dX6_upTo_10 : decode cX6_upTo 10 = .ok (.tableswitch 44 0 2 #[26, 32, 38], 26) := by decide +kernel
theorem dX6_upTo_36 : decode cX6_upTo 36 = .ok (.aload_n 0, 1) := by decide +kernel
theorem dX6_upTo_37 : decode cX6_upTo 37 = .ok (.iload_n 1, 1) := by decide +kernel
theorem dX6_upTo_38 : decode cX6_upTo 38 = .ok (.invokevirtual 174, 3) := by decide +kernel
theorem dX6_upTo_41 : decode cX6_upTo 41 = .ok (.ireturn, 1) := by decide +kernel
theorem dX6_upTo_42 : decode cX6_upTo 42 = .ok (.aload_n 0, 1) := by decide +kernel
theorem dX6_upTo_43 : decode cX6_upTo 43 = .ok (.iload_n 1, 1) := by decide +kernel
theorem dX6_upTo_44 : decode cX6_upTo 44 = .ok (.invokevirtual 177, 3) := by decide +kernel
theorem dX6_upTo_47 : decode cX6_upTo 47 = .ok (.ireturn, 1) := by decide +kernel
theorem dX6_upTo_48 : decode cX6_upTo 48 = .ok (.aload_n 0, 1) := by decide +kernel
theorem dX6_upTo_49 : decode cX6_upTo 49 = .ok (.iload_n 1, 1) := by decide +kernel
theorem dX6_upTo_50 : decode cX6_upTo 50 = .ok (.invokevirtual 180, 3) := by decide +kernel
theorem dX6_upTo_53 : decode cX6_upTo 53 = .ok (.ireturn, 1) := by decide +kernel
theorem dX6_upTo_54 : decode cX6_upTo 54 = .ok (.iconst (-1), 1) := by decide +kernel
theorem dX6_upTo_55 : decode cX6_upTo 55 = .ok (.ireturn, 1) := by decide +kernel
set_option maxRecDepth 20000 in
theorem ggX6_countOf_X3_remainder : GoodIn wsX6_countOf wsX3_remainder := goodIn_r _ [6, 7, 8, 9, 10, 11, 12, 13, 14, 15, 16, 17, 18, 26, 27, 28, 29, 30, 31, 32, 33, 34, 35, 36] (by decide +kernel) (by decide +kernel)
set_option maxRecDepth 20000 in
theorem gX6_countOf_X3_remainder : GoodIn wsX6_countOf (wsV RX6 129 RX3 yX3_remainder wsX3_remainder) := goodIn_app (goodIn_of _ (by decide +kernel)) ggX6_countOf_X3_remainder
theorem dX6_countOf_0 : decode cX6_countOf 0 = .ok (.iconst 0, 1) := by decide +kernel
theorem dX6_countOf_1 : decode cX6_countOf 1 = .ok (.istore_n 3, 1) := by decide +kernel
theorem dX6_countOf_2 : decode cX6_countOf 2 = .ok (.iconst 0, 1) := by decide +kernel
theorem dX6_countOf_3 : decode cX6_countOf 3 = .ok (.istore 4, 2) := by decide +kernel
theorem dX6_countOf_5 : decode cX6_countOf 5 = .ok (.iload 4, 2) := by decide +kernel
theorem dX6_countOf_7 : decode cX6_countOf 7 = .ok (.iload_n 1, 1) := by decide +kernel
theorem dX6_countOf_8 : decode cX6_countOf 8 = .ok (.if_icmp .gt 26, 3) := by decide +kernel
theorem dX6_countOf_11 : decode cX6_countOf 11 = .ok (.aload_n 0, 1) := by decide +kernel
theorem dX6_countOf_12 : decode cX6_countOf 12 = .ok (.getfield 23, 3) := by decide +kernel
theorem dX6_countOf_15 : decode cX6_countOf 15 = .ok (.iload_n 1, 1) := by decide +kernel
theorem dX6_countOf_16 : decode cX6_countOf 16 = .ok (.iload 4, 2) := by decide +kernel
theorem dX6_countOf_18 : decode cX6_countOf 18 = .ok (.invokevirtual 129, 3) := by decide +kernel
theorem dX6_countOf_21 : decode cX6_countOf 21 = .ok (.iload_n 2, 1) := by decide +kernel
theorem dX6_countOf_22 : decode cX6_countOf 22 = .ok (.if_icmp .ne 6, 3) := by decide +kernel
theorem dX6_countOf_25 : decode cX6_countOf 25 = .ok (.iinc 3 1, 3) := by decide +kernel
theorem dX6_countOf_28 : decode cX6_countOf 28 = .ok (.iinc 4 1, 3) := by decide +kernel
theorem dX6_countOf_31 : decode cX6_countOf 31 = .ok (.goto (-26), 3) := by decide +kernel
theorem dX6_countOf_34 : decode cX6_countOf 34 = .ok (.iload_n 3, 1) := by decide +kernel
theorem dX6_countOf_35 : decode cX6_countOf 35 = .ok (.ireturn, 1) := by decide +kernel
set_option maxRecDepth 20000 in
theorem ggX6_nextKind_X3_remainder : GoodIn wsX6_nextKind wsX3_remainder := goodIn_r _ [6, 7, 8, 9, 10, 11, 12, 13, 14, 15, 16, 17, 18, 26, 27, 28, 29, 30, 31, 32, 33, 34, 35, 36] (by decide +kernel) (by decide +kernel)
set_option maxRecDepth 20000 in
theorem gX6_nextKind_X3_remainder : GoodIn wsX6_nextKind (wsV RX6 129 RX3 yX3_remainder wsX3_remainder) := goodIn_app (goodIn_of _ (by decide +kernel)) ggX6_nextKind_X3_remainder
theorem dX6_nextKind_0 : decode cX6_nextKind 0 = .ok (.iconst (-1), 1) := by decide +kernel
theorem dX6_nextKind_1 : decode cX6_nextKind 1 = .ok (.istore_n 3, 1) := by decide +kernel
theorem dX6_nextKind_2 : decode cX6_nextKind 2 = .ok (.iconst 0, 1) := by decide +kernel
theorem dX6_nextKind_3 : decode cX6_nextKind 3 = .ok (.istore 4, 2) := by decide +kernel
theorem dX6_nextKind_5 : decode cX6_nextKind 5 = .ok (.iload 4, 2) := by decide +kernel
theorem dX6_nextKind_7 : decode cX6_nextKind 7 = .ok (.iload_n 1, 1) := by decide +kernel
theorem dX6_nextKind_8 : decode cX6_nextKind 8 = .ok (.iconst 2, 1) := by decide +kernel
theorem dX6_nextKind_9 : decode cX6_nextKind 9 = .ok (.idiv, 1) := by decide +kernel
theorem dX6_nextKind_10 : decode cX6_nextKind 10 = .ok (.if_icmp .gt 41, 3) := by decide +kernel
theorem dX6_nextKind_13 : decode cX6_nextKind 13 = .ok (.aload_n 0, 1) := by decide +kernel
theorem dX6_nextKind_14 : decode cX6_nextKind 14 = .ok (.getfield 23, 3) := by decide +kernel
theorem dX6_nextKind_17 : decode cX6_nextKind 17 = .ok (.iload_n 1, 1) := by decide +kernel
theorem dX6_nextKind_18 : decode cX6_nextKind 18 = .ok (.iload 4, 2) := by decide +kernel
theorem dX6_nextKind_20 : decode cX6_nextKind 20 = .ok (.invokevirtual 129, 3) := by decide +kernel
theorem dX6_nextKind_23 : decode cX6_nextKind 23 = .ok (.istore 5, 2) := by decide +kernel
theorem dX6_nextKind_25 : decode cX6_nextKind 25 = .ok (.iload 5, 2) := by decide +kernel
theorem dX6_nextKind_27 : decode cX6_nextKind 27 = .ok (.iload_n 2, 1) := by decide +kernel
theorem dX6_nextKind_28 : decode cX6_nextKind 28 = .ok (.if_icmp .le 17, 3) := by decide +kernel
theorem dX6_nextKind_31 : decode cX6_nextKind 31 = .ok (.iload_n 3, 1) := by decide +kernel
theorem dX6_nextKind_32 : decode cX6_nextKind 32 = .ok (.iconst (-1), 1) := by decide +kernel
theorem dX6_nextKind_33 : decode cX6_nextKind 33 = .ok (.if_icmp .eq 9, 3) := by decide +kernel
theorem dX6_nextKind_36 : decode cX6_nextKind 36 = .ok (.iload 5, 2) := by decide +kernel
theorem dX6_nextKind_38 : decode cX6_nextKind 38 = .ok (.iload_n 3, 1) := by decide +kernel
theorem dX6_nextKind_39 : decode cX6_nextKind 39 = .ok (.if_icmp .ge 6, 3) := by decide +kernel
theorem dX6_nextKind_42 : decode cX6_nextKind 42 = .ok (.iload 5, 2) := by decide +kernel
theorem dX6_nextKind_44 : decode cX6_nextKind 44 = .ok (.istore_n 3, 1) := by decide +kernel
theorem dX6_nextKind_45 : decode cX6_nextKind 45 = .ok (.iinc 4 1, 3) := by decide +kernel
theorem dX6_nextKind_48 : decode cX6_nextKind 48 = .ok (.goto (-43), 3) := by decide +kernel
theorem dX6_nextKind_51 : decode cX6_nextKind 51 = .ok (.iload_n 3, 1) := by decide +kernel
theorem dX6_nextKind_52 : decode cX6_nextKind 52 = .ok (.ireturn, 1) := by decide +kernel
set_option maxRecDepth 20000 in
theorem ggX6_kindsOf_X6_nextKind : GoodIn wsX6_kindsOf wsX6_nextKind := goodIn_r _ [5, 6, 7, 8, 9, 10, 11, 12, 13, 14, 15, 16, 17, 18, 19, 20, 21, 22, 23, 24, 25, 26, 27, 28, 29, 30, 31, 32, 33, 34, 35, 36, 37, 38, 39, 40, 41] (by decide +kernel) (by decide +kernel)
set_option maxRecDepth 20000 in
theorem gX6_kindsOf_X6_nextKind : GoodIn wsX6_kindsOf (wsV RX6 171 RX6 yX6_nextKind wsX6_nextKind) := goodIn_app (goodIn_of _ (by decide +kernel)) ggX6_kindsOf_X6_nextKind
theorem dX6_kindsOf_0 : decode cX6_kindsOf 0 = .ok (.iconst (-1), 1) := by decide +kernel
theorem dX6_kindsOf_1 : decode cX6_kindsOf 1 = .ok (.istore_n 2, 1) := by decide +kernel
theorem dX6_kindsOf_2 : decode cX6_kindsOf 2 = .ok (.iconst 0, 1) := by decide +kernel
theorem dX6_kindsOf_3 : decode cX6_kindsOf 3 = .ok (.istore_n 3, 1) := by decide +kernel
theorem dX6_kindsOf_4 : decode cX6_kindsOf 4 = .ok (.iload_n 3, 1) := by decide +kernel
theorem dX6_kindsOf_5 : decode cX6_kindsOf 5 = .ok (.iload_n 1, 1) := by decide +kernel
theorem dX6_kindsOf_6 : decode cX6_kindsOf 6 = .ok (.if_icmp .gt 23, 3) := by decide +kernel
theorem dX6_kindsOf_9 : decode cX6_kindsOf 9 = .ok (.aload_n 0, 1) := by decide +kernel
theorem dX6_kindsOf_10 : decode cX6_kindsOf 10 = .ok (.iload_n 1, 1) := by decide +kernel
theorem dX6_kindsOf_11 : decode cX6_kindsOf 11 = .ok (.iload_n 2, 1) := by decide +kernel
theorem dX6_kindsOf_12 : decode cX6_kindsOf 12 = .ok (.invokevirtual 171, 3) := by decide +kernel
theorem dX6_kindsOf_15 : decode cX6_kindsOf 15 = .ok (.istore_n 2, 1) := by decide +kernel
theorem dX6_kindsOf_16 : decode cX6_kindsOf 16 = .ok (.iload_n 2, 1) := by decide +kernel
theorem dX6_kindsOf_17 : decode cX6_kindsOf 17 = .ok (.iconst (-1), 1) := by decide +kernel
theorem dX6_kindsOf_18 : decode cX6_kindsOf 18 = .ok (.if_icmp .ne 5, 3) := by decide +kernel
theorem dX6_kindsOf_21 : decode cX6_kindsOf 21 = .ok (.iload_n 3, 1) := by decide +kernel
theorem dX6_kindsOf_22 : decode cX6_kindsOf 22 = .ok (.ireturn, 1) := by decide +kernel
theorem dX6_kindsOf_23 : decode cX6_kindsOf 23 = .ok (.iinc 3 1, 3) := by decide +kernel
theorem dX6_kindsOf_26 : decode cX6_kindsOf 26 = .ok (.goto (-22), 3) := by decide +kernel
theorem dX6_kindsOf_29 : decode cX6_kindsOf 29 = .ok (.iload_n 1, 1) := by decide +kernel
theorem dX6_kindsOf_30 : decode cX6_kindsOf 30 = .ok (.iconst 1, 1) := by decide +kernel
theorem dX6_kindsOf_31 : decode cX6_kindsOf 31 = .ok (.iadd, 1) := by decide +kernel
theorem dX6_kindsOf_32 : decode cX6_kindsOf 32 = .ok (.ireturn, 1) := by decide +kernel
set_option maxRecDepth 20000 in
theorem ggX6_usualOf_X6_nextKind : GoodIn wsX6_usualOf wsX6_nextKind := goodIn_r _ [5, 6, 7, 8, 9, 10, 11, 12, 13, 14, 15, 16, 17, 18, 19, 20, 21, 22, 23, 28, 29, 30, 31, 32, 33, 34, 35, 36, 37, 38, 39, 40, 41, 42, 43, 44, 45] (by decide +kernel) (by decide +kernel)
set_option maxRecDepth 20000 in
theorem gX6_usualOf_X6_nextKind : GoodIn wsX6_usualOf (wsV RX6 171 RX6 yX6_nextKind wsX6_nextKind) := goodIn_app (goodIn_of _ (by decide +kernel)) ggX6_usualOf_X6_nextKind
set_option maxRecDepth 20000 in
theorem ggX6_usualOf_X6_countOf : GoodIn wsX6_usualOf wsX6_countOf := goodIn_r _ [27, 6, 7, 8, 9, 10, 11, 12, 13, 14, 15, 16, 17, 18, 19, 20, 21, 22, 23, 28, 29, 30, 31, 32, 33, 34, 35, 36, 37, 38, 39, 40, 41, 42, 43, 44, 45] (by decide +kernel) (by decide +kernel)
set_option maxRecDepth 20000 in
theorem gX6_usualOf_X6_countOf : GoodIn wsX6_usualOf (wsV RX6 156 RX6 yX6_countOf wsX6_countOf) := goodIn_app (goodIn_of _ (by decide +kernel)) ggX6_usualOf_X6_countOf
theorem dX6_usualOf_0 : decode cX6_usualOf 0 = .ok (.iconst (-1), 1) := by decide +kernel
theorem dX6_usualOf_1 : decode cX6_usualOf 1 = .ok (.istore_n 2, 1) := by decide +kernel
theorem dX6_usualOf_2 : decode cX6_usualOf 2 = .ok (.iconst 0, 1) := by decide +kernel
theorem dX6_usualOf_3 : decode cX6_usualOf 3 = .ok (.istore_n 3, 1) := by decide +kernel
theorem dX6_usualOf_4 : decode cX6_usualOf 4 = .ok (.iconst (-1), 1) := by decide +kernel
theorem dX6_usualOf_5 : decode cX6_usualOf 5 = .ok (.istore 4, 2) := by decide +kernel
theorem dX6_usualOf_7 : decode cX6_usualOf 7 = .ok (.iconst 0, 1) := by decide +kernel
theorem dX6_usualOf_8 : decode cX6_usualOf 8 = .ok (.istore 5, 2) := by decide +kernel
theorem dX6_usualOf_10 : decode cX6_usualOf 10 = .ok (.iload 5, 2) := by decide +kernel
theorem dX6_usualOf_12 : decode cX6_usualOf 12 = .ok (.iload_n 1, 1) := by decide +kernel
theorem dX6_usualOf_13 : decode cX6_usualOf 13 = .ok (.if_icmp .gt 47, 3) := by decide +kernel
theorem dX6_usualOf_16 : decode cX6_usualOf 16 = .ok (.aload_n 0, 1) := by decide +kernel
theorem dX6_usualOf_17 : decode cX6_usualOf 17 = .ok (.iload_n 1, 1) := by decide +kernel
theorem dX6_usualOf_18 : decode cX6_usualOf 18 = .ok (.iload 4, 2) := by decide +kernel
theorem dX6_usualOf_20 : decode cX6_usualOf 20 = .ok (.invokevirtual 171, 3) := by decide +kernel
theorem dX6_usualOf_23 : decode cX6_usualOf 23 = .ok (.istore 4, 2) := by decide +kernel
theorem dX6_usualOf_25 : decode cX6_usualOf 25 = .ok (.iload 4, 2) := by decide +kernel
theorem dX6_usualOf_27 : decode cX6_usualOf 27 = .ok (.iconst (-1), 1) := by decide +kernel
theorem dX6_usualOf_28 : decode cX6_usualOf 28 = .ok (.if_icmp .ne 5, 3) := by decide +kernel
theorem dX6_usualOf_31 : decode cX6_usualOf 31 = .ok (.iload_n 2, 1) := by decide +kernel
theorem dX6_usualOf_32 : decode cX6_usualOf 32 = .ok (.ireturn, 1) := by decide +kernel
theorem dX6_usualOf_33 : decode cX6_usualOf 33 = .ok (.aload_n 0, 1) := by decide +kernel
theorem dX6_usualOf_34 : decode cX6_usualOf 34 = .ok (.iload_n 1, 1) := by decide +kernel
theorem dX6_usualOf_35 : decode cX6_usualOf 35 = .ok (.iload 4, 2) := by decide +kernel
theorem dX6_usualOf_37 : decode cX6_usualOf 37 = .ok (.invokevirtual 156, 3) := by decide +kernel
theorem dX6_usualOf_40 : decode cX6_usualOf 40 = .ok (.istore 6, 2) := by decide +kernel
theorem dX6_usualOf_42 : decode cX6_usualOf 42 = .ok (.iload 6, 2) := by decide +kernel
theorem dX6_usualOf_44 : decode cX6_usualOf 44 = .ok (.iload_n 3, 1) := by decide +kernel
theorem dX6_usualOf_45 : decode cX6_usualOf 45 = .ok (.if_icmp .le 9, 3) := by decide +kernel
theorem dX6_usualOf_48 : decode cX6_usualOf 48 = .ok (.iload 6, 2) := by decide +kernel
theorem dX6_usualOf_50 : decode cX6_usualOf 50 = .ok (.istore_n 3, 1) := by decide +kernel
theorem dX6_usualOf_51 : decode cX6_usualOf 51 = .ok (.iload 4, 2) := by decide +kernel
theorem dX6_usualOf_53 : decode cX6_usualOf 53 = .ok (.istore_n 2, 1) := by decide +kernel
theorem dX6_usualOf_54 : decode cX6_usualOf 54 = .ok (.iinc 5 1, 3) := by decide +kernel
theorem dX6_usualOf_57 : decode cX6_usualOf 57 = .ok (.goto (-47), 3) := by decide +kernel
theorem dX6_usualOf_60 : decode cX6_usualOf 60 = .ok (.iload_n 2, 1) := by decide +kernel
theorem dX6_usualOf_61 : decode cX6_usualOf 61 = .ok (.ireturn, 1) := by decide +kernel
set_option maxRecDepth 20000 in
theorem ggX6_sumOf_X3_remainder : GoodIn wsX6_sumOf wsX3_remainder := goodIn_r _ [6, 7, 8, 9, 10, 11, 12, 13, 14, 15, 16, 17, 18, 26, 27, 28, 29, 30, 31, 32, 33, 34, 35, 36] (by decide +kernel) (by decide +kernel)
set_option maxRecDepth 20000 in
theorem gX6_sumOf_X3_remainder : GoodIn wsX6_sumOf (wsV RX6 129 RX3 yX3_remainder wsX3_remainder) := goodIn_app (goodIn_of _ (by decide +kernel)) ggX6_sumOf_X3_remainder
theorem dX6_sumOf_0 : decode cX6_sumOf 0 = .ok (.iconst 0, 1) := by decide +kernel
theorem dX6_sumOf_1 : decode cX6_sumOf 1 = .ok (.istore_n 2, 1) := by decide +kernel
theorem dX6_sumOf_2 : decode cX6_sumOf 2 = .ok (.iconst 0, 1) := by decide +kernel
theorem dX6_sumOf_3 : decode cX6_sumOf 3 = .ok (.istore_n 3, 1) := by decide +kernel
theorem dX6_sumOf_4 : decode cX6_sumOf 4 = .ok (.iload_n 3, 1) := by decide +kernel
theorem dX6_sumOf_5 : decode cX6_sumOf 5 = .ok (.iload_n 1, 1) := by decide +kernel
theorem dX6_sumOf_6 : decode cX6_sumOf 6 = .ok (.if_icmp .gt 21, 3) := by decide +kernel
theorem dX6_sumOf_9 : decode cX6_sumOf 9 = .ok (.iload_n 2, 1) := by decide +kernel
theorem dX6_sumOf_10 : decode cX6_sumOf 10 = .ok (.aload_n 0, 1) := by decide +kernel
theorem dX6_sumOf_11 : decode cX6_sumOf 11 = .ok (.getfield 23, 3) := by decide +kernel
theorem dX6_sumOf_14 : decode cX6_sumOf 14 = .ok (.iload_n 1, 1) := by decide +kernel
theorem dX6_sumOf_15 : decode cX6_sumOf 15 = .ok (.iload_n 3, 1) := by decide +kernel
theorem dX6_sumOf_16 : decode cX6_sumOf 16 = .ok (.invokevirtual 129, 3) := by decide +kernel
theorem dX6_sumOf_19 : decode cX6_sumOf 19 = .ok (.iadd, 1) := by decide +kernel
theorem dX6_sumOf_20 : decode cX6_sumOf 20 = .ok (.istore_n 2, 1) := by decide +kernel
theorem dX6_sumOf_21 : decode cX6_sumOf 21 = .ok (.iinc 3 1, 3) := by decide +kernel
theorem dX6_sumOf_24 : decode cX6_sumOf 24 = .ok (.goto (-20), 3) := by decide +kernel
theorem dX6_sumOf_27 : decode cX6_sumOf 27 = .ok (.iload_n 2, 1) := by decide +kernel
theorem dX6_sumOf_28 : decode cX6_sumOf 28 = .ok (.ireturn, 1) := by decide +kernel
set_option maxRecDepth 20000 in
theorem ggX6_depthOf_X0_carries : GoodIn wsX6_depthOf wsX0_carries := goodIn_r _ [9] (by decide +kernel) (by decide +kernel)
set_option maxRecDepth 20000 in
theorem gX6_depthOf_X0_carries : GoodIn wsX6_depthOf (va_wsS RX6 183 yX0_carries wsX0_carries) := goodIn_app (goodIn_of _ (by decide +kernel)) ggX6_depthOf_X0_carries
theorem dX6_depthOf_0 : decode cX6_depthOf 0 = .ok (.iconst 0, 1) := by decide +kernel
theorem dX6_depthOf_1 : decode cX6_depthOf 1 = .ok (.istore_n 2, 1) := by decide +kernel
theorem dX6_depthOf_2 : decode cX6_depthOf 2 = .ok (.iconst 0, 1) := by decide +kernel
theorem dX6_depthOf_3 : decode cX6_depthOf 3 = .ok (.istore_n 3, 1) := by decide +kernel
theorem dX6_depthOf_4 : decode cX6_depthOf 4 = .ok (.iload_n 3, 1) := by decide +kernel
theorem dX6_depthOf_5 : decode cX6_depthOf 5 = .ok (.iload_n 1, 1) := by decide +kernel
theorem dX6_depthOf_6 : decode cX6_depthOf 6 = .ok (.if_icmp .gt 26, 3) := by decide +kernel
theorem dX6_depthOf_9 : decode cX6_depthOf 9 = .ok (.iload_n 2, 1) := by decide +kernel
theorem dX6_depthOf_10 : decode cX6_depthOf 10 = .ok (.aload_n 0, 1) := by decide +kernel
theorem dX6_depthOf_11 : decode cX6_depthOf 11 = .ok (.getfield 23, 3) := by decide +kernel
theorem dX6_depthOf_14 : decode cX6_depthOf 14 = .ok (.getfield 47, 3) := by decide +kernel
theorem dX6_depthOf_17 : decode cX6_depthOf 17 = .ok (.iload_n 1, 1) := by decide +kernel
theorem dX6_depthOf_18 : decode cX6_depthOf 18 = .ok (.iload_n 3, 1) := by decide +kernel
theorem dX6_depthOf_19 : decode cX6_depthOf 19 = .ok (.invokestatic 183, 3) := by decide +kernel
theorem dX6_depthOf_22 : decode cX6_depthOf 22 = .ok (.invokestatic 186, 3) := by decide +kernel
theorem dX6_depthOf_25 : decode cX6_depthOf 25 = .ok (.istore_n 2, 1) := by decide +kernel
theorem dX6_depthOf_26 : decode cX6_depthOf 26 = .ok (.iinc 3 1, 3) := by decide +kernel
theorem dX6_depthOf_29 : decode cX6_depthOf 29 = .ok (.goto (-25), 3) := by decide +kernel
theorem dX6_depthOf_32 : decode cX6_depthOf 32 = .ok (.iload_n 2, 1) := by decide +kernel
theorem dX6_depthOf_33 : decode cX6_depthOf 33 = .ok (.ireturn, 1) := by decide +kernel
set_option maxRecDepth 20000 in
theorem ggX6_fullRows_X6_countOf : GoodIn wsX6_fullRows wsX6_countOf := goodIn_r _ [5, 6, 7, 8, 9, 10, 11, 12, 13, 14, 15, 16, 17, 18, 19, 20, 21, 22, 23, 24, 25, 26, 27, 28, 29, 30, 31, 32, 33, 34, 35, 36, 37, 38, 39, 40, 41] (by decide +kernel) (by decide +kernel)
set_option maxRecDepth 20000 in
theorem gX6_fullRows_X6_countOf : GoodIn wsX6_fullRows (wsV RX6 156 RX6 yX6_countOf wsX6_countOf) := goodIn_app (goodIn_of _ (by decide +kernel)) ggX6_fullRows_X6_countOf
theorem dX6_fullRows_0 : decode cX6_fullRows 0 = .ok (.iconst 0, 1) := by decide +kernel
theorem dX6_fullRows_1 : decode cX6_fullRows 1 = .ok (.istore_n 2, 1) := by decide +kernel
theorem dX6_fullRows_2 : decode cX6_fullRows 2 = .ok (.iconst 0, 1) := by decide +kernel
theorem dX6_fullRows_3 : decode cX6_fullRows 3 = .ok (.istore_n 3, 1) := by decide +kernel
theorem dX6_fullRows_4 : decode cX6_fullRows 4 = .ok (.iload_n 3, 1) := by decide +kernel
theorem dX6_fullRows_5 : decode cX6_fullRows 5 = .ok (.iload_n 1, 1) := by decide +kernel
theorem dX6_fullRows_6 : decode cX6_fullRows 6 = .ok (.if_icmp .gt 21, 3) := by decide +kernel
theorem dX6_fullRows_9 : decode cX6_fullRows 9 = .ok (.aload_n 0, 1) := by decide +kernel
theorem dX6_fullRows_10 : decode cX6_fullRows 10 = .ok (.iload_n 3, 1) := by decide +kernel
theorem dX6_fullRows_11 : decode cX6_fullRows 11 = .ok (.iconst 0, 1) := by decide +kernel
theorem dX6_fullRows_12 : decode cX6_fullRows 12 = .ok (.invokevirtual 156, 3) := by decide +kernel
theorem dX6_fullRows_15 : decode cX6_fullRows 15 = .ok (.ifCond .ne 6, 3) := by decide +kernel
theorem dX6_fullRows_18 : decode cX6_fullRows 18 = .ok (.iinc 2 1, 3) := by decide +kernel
theorem dX6_fullRows_21 : decode cX6_fullRows 21 = .ok (.iinc 3 1, 3) := by decide +kernel
theorem dX6_fullRows_24 : decode cX6_fullRows 24 = .ok (.goto (-20), 3) := by decide +kernel
theorem dX6_fullRows_27 : decode cX6_fullRows 27 = .ok (.iload_n 2, 1) := by decide +kernel
theorem dX6_fullRows_28 : decode cX6_fullRows 28 = .ok (.ireturn, 1) := by decide +kernel
set_option maxRecDepth 20000 in
theorem ggX6_lastFullRow_X6_countOf : GoodIn wsX6_lastFullRow wsX6_countOf := goodIn_r _ [5, 6, 7, 8, 9, 10, 11, 12, 13, 14, 15, 16, 17, 18, 19, 20, 21, 22, 23, 24, 25, 26, 27, 28, 29, 30, 31, 32, 33, 34, 35, 36, 37, 38, 39, 40, 41] (by decide +kernel) (by decide +kernel)
set_option maxRecDepth 20000 in
theorem gX6_lastFullRow_X6_countOf : GoodIn wsX6_lastFullRow (wsV RX6 156 RX6 yX6_countOf wsX6_countOf) := goodIn_app (goodIn_of _ (by decide +kernel)) ggX6_lastFullRow_X6_countOf
theorem dX6_lastFullRow_0 : decode cX6_lastFullRow 0 = .ok (.iload_n 1, 1) := by decide +kernel
theorem dX6_lastFullRow_1 : decode cX6_lastFullRow 1 = .ok (.istore_n 2, 1) := by decide +kernel
theorem dX6_lastFullRow_2 : decode cX6_lastFullRow 2 = .ok (.iload_n 2, 1) := by decide +kernel
theorem dX6_lastFullRow_3 : decode cX6_lastFullRow 3 = .ok (.ifCond .le 20, 3) := by decide +kernel
theorem dX6_lastFullRow_6 : decode cX6_lastFullRow 6 = .ok (.aload_n 0, 1) := by decide +kernel
theorem dX6_lastFullRow_7 : decode cX6_lastFullRow 7 = .ok (.iload_n 2, 1) := by decide +kernel
theorem dX6_lastFullRow_8 : decode cX6_lastFullRow 8 = .ok (.iconst 0, 1) := by decide +kernel
theorem dX6_lastFullRow_9 : decode cX6_lastFullRow 9 = .ok (.invokevirtual 156, 3) := by decide +kernel
theorem dX6_lastFullRow_12 : decode cX6_lastFullRow 12 = .ok (.ifCond .ne 5, 3) := by decide +kernel
theorem dX6_lastFullRow_15 : decode cX6_lastFullRow 15 = .ok (.iload_n 2, 1) := by decide +kernel
theorem dX6_lastFullRow_16 : decode cX6_lastFullRow 16 = .ok (.ireturn, 1) := by decide +kernel
theorem dX6_lastFullRow_17 : decode cX6_lastFullRow 17 = .ok (.iinc 2 (-1), 3) := by decide +kernel
theorem dX6_lastFullRow_20 : decode cX6_lastFullRow 20 = .ok (.goto (-18), 3) := by decide +kernel
theorem dX6_lastFullRow_23 : decode cX6_lastFullRow 23 = .ok (.iconst 0, 1) := by decide +kernel
theorem dX6_lastFullRow_24 : decode cX6_lastFullRow 24 = .ok (.ireturn, 1) := by decide +kernel
set_option maxRecDepth 20000 in
theorem ggX6_heaviestRow_X6_countOf : GoodIn wsX6_heaviestRow wsX6_countOf := goodIn_r _ [5, 6, 7, 8, 9, 10, 11, 12, 13, 14, 15, 16, 17, 18, 19, 20, 21, 22, 23, 24, 25, 26, 27, 28, 29, 30, 31, 32, 33, 34, 35, 36, 37, 38, 39, 40, 41] (by decide +kernel) (by decide +kernel)
set_option maxRecDepth 20000 in
theorem gX6_heaviestRow_X6_countOf : GoodIn wsX6_heaviestRow (wsV RX6 156 RX6 yX6_countOf wsX6_countOf) := goodIn_app (goodIn_of _ (by decide +kernel)) ggX6_heaviestRow_X6_countOf
theorem dX6_heaviestRow_0 : decode cX6_heaviestRow 0 = .ok (.iconst 0, 1) := by decide +kernel
theorem dX6_heaviestRow_1 : decode cX6_heaviestRow 1 = .ok (.istore_n 2, 1) := by decide +kernel
theorem dX6_heaviestRow_2 : decode cX6_heaviestRow 2 = .ok (.iconst 0, 1) := by decide +kernel
theorem dX6_heaviestRow_3 : decode cX6_heaviestRow 3 = .ok (.istore_n 3, 1) := by decide +kernel
theorem dX6_heaviestRow_4 : decode cX6_heaviestRow 4 = .ok (.iconst 0, 1) := by decide +kernel
theorem dX6_heaviestRow_5 : decode cX6_heaviestRow 5 = .ok (.istore 4, 2) := by decide +kernel
theorem dX6_heaviestRow_7 : decode cX6_heaviestRow 7 = .ok (.iload 4, 2) := by decide +kernel
theorem dX6_heaviestRow_9 : decode cX6_heaviestRow 9 = .ok (.iload_n 1, 1) := by decide +kernel
theorem dX6_heaviestRow_10 : decode cX6_heaviestRow 10 = .ok (.if_icmp .gt 30, 3) := by decide +kernel
theorem dX6_heaviestRow_13 : decode cX6_heaviestRow 13 = .ok (.aload_n 0, 1) := by decide +kernel
theorem dX6_heaviestRow_14 : decode cX6_heaviestRow 14 = .ok (.iload 4, 2) := by decide +kernel
theorem dX6_heaviestRow_16 : decode cX6_heaviestRow 16 = .ok (.iconst 0, 1) := by decide +kernel
theorem dX6_heaviestRow_17 : decode cX6_heaviestRow 17 = .ok (.invokevirtual 156, 3) := by decide +kernel
theorem dX6_heaviestRow_20 : decode cX6_heaviestRow 20 = .ok (.istore 5, 2) := by decide +kernel
theorem dX6_heaviestRow_22 : decode cX6_heaviestRow 22 = .ok (.iload 5, 2) := by decide +kernel
theorem dX6_heaviestRow_24 : decode cX6_heaviestRow 24 = .ok (.iload_n 3, 1) := by decide +kernel
theorem dX6_heaviestRow_25 : decode cX6_heaviestRow 25 = .ok (.if_icmp .le 9, 3) := by decide +kernel
theorem dX6_heaviestRow_28 : decode cX6_heaviestRow 28 = .ok (.iload 5, 2) := by decide +kernel
theorem dX6_heaviestRow_30 : decode cX6_heaviestRow 30 = .ok (.istore_n 3, 1) := by decide +kernel
theorem dX6_heaviestRow_31 : decode cX6_heaviestRow 31 = .ok (.iload 4, 2) := by decide +kernel
theorem dX6_heaviestRow_33 : decode cX6_heaviestRow 33 = .ok (.istore_n 2, 1) := by decide +kernel
theorem dX6_heaviestRow_34 : decode cX6_heaviestRow 34 = .ok (.iinc 4 1, 3) := by decide +kernel
theorem dX6_heaviestRow_37 : decode cX6_heaviestRow 37 = .ok (.goto (-30), 3) := by decide +kernel
theorem dX6_heaviestRow_40 : decode cX6_heaviestRow 40 = .ok (.iload_n 2, 1) := by decide +kernel
theorem dX6_heaviestRow_41 : decode cX6_heaviestRow 41 = .ok (.ireturn, 1) := by decide +kernel
set_option maxRecDepth 20000 in
theorem ggX6_picture_X6_isWithin : GoodIn wsX6_picture wsX6_isWithin := goodIn_r _ [5] (by decide +kernel) (by decide +kernel)
set_option maxRecDepth 20000 in
theorem gX6_picture_X6_isWithin : GoodIn wsX6_picture (va_wsS RX6 58 yX6_isWithin wsX6_isWithin) := goodIn_app (goodIn_of _ (by decide +kernel)) ggX6_picture_X6_isWithin
set_option maxRecDepth 20000 in
theorem ggX6_picture_X3_pictureRow : GoodIn wsX6_picture wsX3_pictureRow := goodIn_r _ [10, 11, 12, 13, 14, 15, 9, 16, 17, 18, 4, 19, 20, 21, 22, 2, 3, 5, 23, 24, 25, 26, 27, 28, 29, 30, 31, 32, 33, 34, 35, 36, 37, 38, 39, 40, 41, 42, 43, 44, 45, 46, 47, 48, 49, 50, 51, 52, 53, 54, 55, 56, 57, 58, 59, 60, 68, 69, 70, 71, 72, 73, 74, 75, 76, 77, 78, 79, 80] (by decide +kernel) (by decide +kernel)
set_option maxRecDepth 20000 in
theorem gX6_picture_X3_pictureRow : GoodIn wsX6_picture (wsV RX6 191 RX3 yX3_pictureRow wsX3_pictureRow) := goodIn_app (goodIn_of _ (by decide +kernel)) ggX6_picture_X3_pictureRow
theorem dX6_picture_0 : decode cX6_picture 0 = .ok (.iload_n 1, 1) := by decide +kernel
theorem dX6_picture_1 : decode cX6_picture 1 = .ok (.iconst 0, 1) := by decide +kernel
theorem dX6_picture_2 : decode cX6_picture 2 = .ok (.bipush 7, 2) := by decide +kernel
theorem dX6_picture_4 : decode cX6_picture 4 = .ok (.invokestatic 58, 3) := by decide +kernel
theorem dX6_picture_7 : decode cX6_picture 7 = .ok (.ifCond .eq 14, 3) := by decide +kernel
theorem dX6_picture_10 : decode cX6_picture 10 = .ok (.aload_n 0, 1) := by decide +kernel
theorem dX6_picture_11 : decode cX6_picture 11 = .ok (.getfield 23, 3) := by decide +kernel
theorem dX6_picture_14 : decode cX6_picture 14 = .ok (.iload_n 1, 1) := by decide +kernel
theorem dX6_picture_15 : decode cX6_picture 15 = .ok (.invokevirtual 191, 3) := by decide +kernel
theorem dX6_picture_18 : decode cX6_picture 18 = .ok (.goto 4, 3) := by decide +kernel
theorem dX6_picture_21 : decode cX6_picture 21 = .ok (.iconst (-1), 1) := by decide +kernel
theorem dX6_picture_22 : decode cX6_picture 22 = .ok (.ireturn, 1) := by decide +kernel
set_option maxRecDepth 20000 in
theorem ggX6_like_X6_isRow : GoodIn wsX6_like wsX6_isRow := goodIn_r _ [4, 5, 6, 3, 7] (by decide +kernel) (by decide +kernel)
set_option maxRecDepth 20000 in
theorem gX6_like_X6_isRow : GoodIn wsX6_like (va_wsS RX6 125 yX6_isRow wsX6_isRow) := goodIn_app (goodIn_of _ (by decide +kernel)) ggX6_like_X6_isRow
set_option maxRecDepth 20000 in
theorem ggX6_like_X6_isWithin : GoodIn wsX6_like wsX6_isWithin := goodIn_r _ [7] (by decide +kernel) (by decide +kernel)
set_option maxRecDepth 20000 in
theorem gX6_like_X6_isWithin : GoodIn wsX6_like (va_wsS RX6 58 yX6_isWithin wsX6_isWithin) := goodIn_app (goodIn_of _ (by decide +kernel)) ggX6_like_X6_isWithin
set_option maxRecDepth 20000 in
theorem ggX6_like_X6_areLike : GoodIn wsX6_like wsX6_areLike := goodIn_r _ [11, 12, 13, 14, 15, 16, 17, 18, 19, 20, 21, 22, 23, 24, 25, 26, 27, 28, 29, 30, 31, 32, 33, 34, 35, 36, 37, 38, 39, 40, 41, 42, 43, 44, 45, 46, 47] (by decide +kernel) (by decide +kernel)
set_option maxRecDepth 20000 in
theorem gX6_like_X6_areLike : GoodIn wsX6_like (wsV RX6 194 RX6 yX6_areLike wsX6_areLike) := goodIn_app (goodIn_of _ (by decide +kernel)) ggX6_like_X6_areLike
theorem dX6_like_0 : decode cX6_like 0 = .ok (.iload_n 1, 1) := by decide +kernel
theorem dX6_like_1 : decode cX6_like 1 = .ok (.invokestatic 125, 3) := by decide +kernel
theorem dX6_like_4 : decode cX6_like 4 = .ok (.ifCond .eq 25, 3) := by decide +kernel
theorem dX6_like_7 : decode cX6_like 7 = .ok (.iload_n 2, 1) := by decide +kernel
theorem dX6_like_8 : decode cX6_like 8 = .ok (.invokestatic 125, 3) := by decide +kernel
theorem dX6_like_11 : decode cX6_like 11 = .ok (.ifCond .eq 18, 3) := by decide +kernel
theorem dX6_like_14 : decode cX6_like 14 = .ok (.iload_n 3, 1) := by decide +kernel
theorem dX6_like_15 : decode cX6_like 15 = .ok (.invokestatic 125, 3) := by decide +kernel
theorem dX6_like_18 : decode cX6_like 18 = .ok (.ifCond .eq 11, 3) := by decide +kernel
theorem dX6_like_21 : decode cX6_like 21 = .ok (.iload 4, 2) := by decide +kernel
theorem dX6_like_23 : decode cX6_like 23 = .ok (.invokestatic 125, 3) := by decide +kernel
theorem dX6_like_26 : decode cX6_like 26 = .ok (.ifCond .ne 5, 3) := by decide +kernel
theorem dX6_like_29 : decode cX6_like 29 = .ok (.iconst (-1), 1) := by decide +kernel
theorem dX6_like_30 : decode cX6_like 30 = .ok (.ireturn, 1) := by decide +kernel
theorem dX6_like_31 : decode cX6_like 31 = .ok (.iload 5, 2) := by decide +kernel
theorem dX6_like_33 : decode cX6_like 33 = .ok (.iconst 1, 1) := by decide +kernel
theorem dX6_like_34 : decode cX6_like 34 = .ok (.bipush 32, 2) := by decide +kernel
theorem dX6_like_36 : decode cX6_like 36 = .ok (.invokestatic 58, 3) := by decide +kernel
theorem dX6_like_39 : decode cX6_like 39 = .ok (.ifCond .ne 6, 3) := by decide +kernel
theorem dX6_like_42 : decode cX6_like 42 = .ok (.bipush (-2), 2) := by decide +kernel
theorem dX6_like_44 : decode cX6_like 44 = .ok (.ireturn, 1) := by decide +kernel
theorem dX6_like_45 : decode cX6_like 45 = .ok (.aload_n 0, 1) := by decide +kernel
theorem dX6_like_46 : decode cX6_like 46 = .ok (.iload_n 1, 1) := by decide +kernel
theorem dX6_like_47 : decode cX6_like 47 = .ok (.iload_n 2, 1) := by decide +kernel
theorem dX6_like_48 : decode cX6_like 48 = .ok (.iload_n 3, 1) := by decide +kernel
theorem dX6_like_49 : decode cX6_like 49 = .ok (.iload 4, 2) := by decide +kernel
theorem dX6_like_51 : decode cX6_like 51 = .ok (.iload 5, 2) := by decide +kernel
theorem dX6_like_53 : decode cX6_like 53 = .ok (.invokevirtual 194, 3) := by decide +kernel
theorem dX6_like_56 : decode cX6_like 56 = .ok (.ifCond .eq 7, 3) := by decide +kernel
theorem dX6_like_59 : decode cX6_like 59 = .ok (.iconst 1, 1) := by decide +kernel
theorem dX6_like_60 : decode cX6_like 60 = .ok (.goto 4, 3) := by decide +kernel
theorem dX6_like_63 : decode cX6_like 63 = .ok (.iconst 0, 1) := by decide +kernel
theorem dX6_like_64 : decode cX6_like 64 = .ok (.ireturn, 1) := by decide +kernel
set_option maxRecDepth 20000 in
theorem ggX6_scaled_X6_isWithin : GoodIn wsX6_scaled wsX6_isWithin := goodIn_r _ [4] (by decide +kernel) (by decide +kernel)
set_option maxRecDepth 20000 in
theorem gX6_scaled_X6_isWithin : GoodIn wsX6_scaled (va_wsS RX6 58 yX6_isWithin wsX6_isWithin) := goodIn_app (goodIn_of _ (by decide +kernel)) ggX6_scaled_X6_isWithin
set_option maxRecDepth 20000 in
theorem ggX6_scaled_X6_areLike : GoodIn wsX6_scaled wsX6_areLike := goodIn_r _ [8, 9, 10, 11, 12, 13, 14, 15, 16, 17, 18, 19, 20, 21, 22, 23, 24, 25, 26, 27, 28, 29, 30, 31, 32, 33, 34, 35, 36, 37, 38, 39, 40, 41, 42, 43, 44] (by decide +kernel) (by decide +kernel)
set_option maxRecDepth 20000 in
theorem gX6_scaled_X6_areLike : GoodIn wsX6_scaled (wsV RX6 194 RX6 yX6_areLike wsX6_areLike) := goodIn_app (goodIn_of _ (by decide +kernel)) ggX6_scaled_X6_areLike
theorem dX6_scaled_0 : decode cX6_scaled 0 = .ok (.iload_n 1, 1) := by decide +kernel
theorem dX6_scaled_1 : decode cX6_scaled 1 = .ok (.iconst 1, 1) := by decide +kernel
theorem dX6_scaled_2 : decode cX6_scaled 2 = .ok (.bipush 32, 2) := by decide +kernel
theorem dX6_scaled_4 : decode cX6_scaled 4 = .ok (.invokestatic 58, 3) := by decide +kernel
theorem dX6_scaled_7 : decode cX6_scaled 7 = .ok (.ifCond .eq 13, 3) := by decide +kernel
theorem dX6_scaled_10 : decode cX6_scaled 10 = .ok (.iload_n 2, 1) := by decide +kernel
theorem dX6_scaled_11 : decode cX6_scaled 11 = .ok (.iconst 1, 1) := by decide +kernel
theorem dX6_scaled_12 : decode cX6_scaled 12 = .ok (.bipush 9, 2) := by decide +kernel
theorem dX6_scaled_14 : decode cX6_scaled 14 = .ok (.invokestatic 58, 3) := by decide +kernel
theorem dX6_scaled_17 : decode cX6_scaled 17 = .ok (.ifCond .ne 6, 3) := by decide +kernel
theorem dX6_scaled_20 : decode cX6_scaled 20 = .ok (.bipush (-2), 2) := by decide +kernel
theorem dX6_scaled_22 : decode cX6_scaled 22 = .ok (.ireturn, 1) := by decide +kernel
theorem dX6_scaled_23 : decode cX6_scaled 23 = .ok (.aload_n 0, 1) := by decide +kernel
theorem dX6_scaled_24 : decode cX6_scaled 24 = .ok (.iconst 0, 1) := by decide +kernel
theorem dX6_scaled_25 : decode cX6_scaled 25 = .ok (.iconst 0, 1) := by decide +kernel
theorem dX6_scaled_26 : decode cX6_scaled 26 = .ok (.iload_n 2, 1) := by decide +kernel
theorem dX6_scaled_27 : decode cX6_scaled 27 = .ok (.iload_n 1, 1) := by decide +kernel
theorem dX6_scaled_28 : decode cX6_scaled 28 = .ok (.imul, 1) := by decide +kernel
theorem dX6_scaled_29 : decode cX6_scaled 29 = .ok (.iconst 0, 1) := by decide +kernel
theorem dX6_scaled_30 : decode cX6_scaled 30 = .ok (.iload_n 1, 1) := by decide +kernel
theorem dX6_scaled_31 : decode cX6_scaled 31 = .ok (.invokevirtual 194, 3) := by decide +kernel
theorem dX6_scaled_34 : decode cX6_scaled 34 = .ok (.ifCond .eq 7, 3) := by decide +kernel
theorem dX6_scaled_37 : decode cX6_scaled 37 = .ok (.iconst 1, 1) := by decide +kernel
theorem dX6_scaled_38 : decode cX6_scaled 38 = .ok (.goto 4, 3) := by decide +kernel
theorem dX6_scaled_41 : decode cX6_scaled 41 = .ok (.iconst 0, 1) := by decide +kernel
theorem dX6_scaled_42 : decode cX6_scaled 42 = .ok (.ireturn, 1) := by decide +kernel
set_option maxRecDepth 20000 in
theorem ggX6_areLike_X3_remainder : GoodIn wsX6_areLike wsX3_remainder := goodIn_r _ [6, 7, 8, 9, 10, 11, 12, 13, 14, 15, 16, 17, 18, 26, 27, 28, 29, 30, 31, 32, 33, 34, 35, 36] (by decide +kernel) (by decide +kernel)
set_option maxRecDepth 20000 in
theorem gX6_areLike_X3_remainder : GoodIn wsX6_areLike (wsV RX6 129 RX3 yX3_remainder wsX3_remainder) := goodIn_app (goodIn_of _ (by decide +kernel)) ggX6_areLike_X3_remainder
theorem dX6_areLike_0 : decode cX6_areLike 0 = .ok (.iconst 0, 1) := by decide +kernel
theorem dX6_areLike_1 : decode cX6_areLike 1 = .ok (.istore 6, 2) := by decide +kernel
theorem dX6_areLike_3 : decode cX6_areLike 3 = .ok (.iload 6, 2) := by decide +kernel
theorem dX6_areLike_5 : decode cX6_areLike 5 = .ok (.iload 5, 2) := by decide +kernel
theorem dX6_areLike_7 : decode cX6_areLike 7 = .ok (.if_icmp .ge 61, 3) := by decide +kernel
theorem dX6_areLike_10 : decode cX6_areLike 10 = .ok (.iconst 0, 1) := by decide +kernel
theorem dX6_areLike_11 : decode cX6_areLike 11 = .ok (.istore 7, 2) := by decide +kernel
theorem dX6_areLike_13 : decode cX6_areLike 13 = .ok (.iload 7, 2) := by decide +kernel
theorem dX6_areLike_15 : decode cX6_areLike 15 = .ok (.iload 5, 2) := by decide +kernel
theorem dX6_areLike_17 : decode cX6_areLike 17 = .ok (.if_icmp .ge 45, 3) := by decide +kernel
theorem dX6_areLike_20 : decode cX6_areLike 20 = .ok (.aload_n 0, 1) := by decide +kernel
theorem dX6_areLike_21 : decode cX6_areLike 21 = .ok (.getfield 23, 3) := by decide +kernel
theorem dX6_areLike_24 : decode cX6_areLike 24 = .ok (.iload_n 1, 1) := by decide +kernel
theorem dX6_areLike_25 : decode cX6_areLike 25 = .ok (.iload 6, 2) := by decide +kernel
theorem dX6_areLike_27 : decode cX6_areLike 27 = .ok (.iadd, 1) := by decide +kernel
theorem dX6_areLike_28 : decode cX6_areLike 28 = .ok (.iload_n 2, 1) := by decide +kernel
theorem dX6_areLike_29 : decode cX6_areLike 29 = .ok (.iload 7, 2) := by decide +kernel
theorem dX6_areLike_31 : decode cX6_areLike 31 = .ok (.iadd, 1) := by decide +kernel
theorem dX6_areLike_32 : decode cX6_areLike 32 = .ok (.invokevirtual 129, 3) := by decide +kernel
theorem dX6_areLike_35 : decode cX6_areLike 35 = .ok (.aload_n 0, 1) := by decide +kernel
theorem dX6_areLike_36 : decode cX6_areLike 36 = .ok (.getfield 23, 3) := by decide +kernel
theorem dX6_areLike_39 : decode cX6_areLike 39 = .ok (.iload_n 3, 1) := by decide +kernel
theorem dX6_areLike_40 : decode cX6_areLike 40 = .ok (.iload 6, 2) := by decide +kernel
theorem dX6_areLike_42 : decode cX6_areLike 42 = .ok (.iadd, 1) := by decide +kernel
theorem dX6_areLike_43 : decode cX6_areLike 43 = .ok (.iload 4, 2) := by decide +kernel
theorem dX6_areLike_45 : decode cX6_areLike 45 = .ok (.iload 7, 2) := by decide +kernel
theorem dX6_areLike_47 : decode cX6_areLike 47 = .ok (.iadd, 1) := by decide +kernel
theorem dX6_areLike_48 : decode cX6_areLike 48 = .ok (.invokevirtual 129, 3) := by decide +kernel
theorem dX6_areLike_51 : decode cX6_areLike 51 = .ok (.if_icmp .eq 5, 3) := by decide +kernel
theorem dX6_areLike_54 : decode cX6_areLike 54 = .ok (.iconst 0, 1) := by decide +kernel
theorem dX6_areLike_55 : decode cX6_areLike 55 = .ok (.ireturn, 1) := by decide +kernel
theorem dX6_areLike_56 : decode cX6_areLike 56 = .ok (.iinc 7 1, 3) := by decide +kernel
theorem dX6_areLike_59 : decode cX6_areLike 59 = .ok (.goto (-46), 3) := by decide +kernel
theorem dX6_areLike_62 : decode cX6_areLike 62 = .ok (.iinc 6 1, 3) := by decide +kernel
theorem dX6_areLike_65 : decode cX6_areLike 65 = .ok (.goto (-62), 3) := by decide +kernel
theorem dX6_areLike_68 : decode cX6_areLike 68 = .ok (.iconst 1, 1) := by decide +kernel
theorem dX6_areLike_69 : decode cX6_areLike 69 = .ok (.ireturn, 1) := by decide +kernel
set_option maxRecDepth 20000 in
theorem ggX6_see_X1_empty : GoodIn wsX6_see wsX1_empty := goodIn_r _ [6, 7, 40, 41] (by decide +kernel) (by decide +kernel)
set_option maxRecDepth 20000 in
theorem gX6_see_X1_empty : GoodIn wsX6_see (wsV RX6 75 RX1 yX1_empty wsX1_empty) := goodIn_app (goodIn_of _ (by decide +kernel)) ggX6_see_X1_empty
set_option maxRecDepth 20000 in
theorem ggX6_see_X6_isPlace : GoodIn wsX6_see wsX6_isPlace := goodIn_r _ [11, 12, 13, 10, 14, 15, 16, 17] (by decide +kernel) (by decide +kernel)
set_option maxRecDepth 20000 in
theorem gX6_see_X6_isPlace : GoodIn wsX6_see (va_wsS RX6 132 yX6_isPlace wsX6_isPlace) := goodIn_app (goodIn_of _ (by decide +kernel)) ggX6_see_X6_isPlace
set_option maxRecDepth 20000 in
theorem ggX6_see_X6_isWithin : GoodIn wsX6_see wsX6_isWithin := goodIn_r _ [17] (by decide +kernel) (by decide +kernel)
set_option maxRecDepth 20000 in
theorem gX6_see_X6_isWithin : GoodIn wsX6_see (va_wsS RX6 58 yX6_isWithin wsX6_isWithin) := goodIn_app (goodIn_of _ (by decide +kernel)) ggX6_see_X6_isWithin
set_option maxRecDepth 20000 in
theorem ggX6_see_X1_add : GoodIn wsX6_see wsX1_add := goodIn_r _ [21, 7, 22, 40, 41] (by decide +kernel) (by decide +kernel)
set_option maxRecDepth 20000 in
theorem gX6_see_X1_add : GoodIn wsX6_see (wsV RX6 66 RX1 yX1_add wsX1_add) := goodIn_app (goodIn_of _ (by decide +kernel)) ggX6_see_X1_add
theorem dX6_see_0 : decode cX6_see 0 = .ok (.iload_n 1, 1) := by decide +kernel
theorem dX6_see_1 : decode cX6_see 1 = .ok (.iconst (-1), 1) := by decide +kernel
theorem dX6_see_2 : decode cX6_see 2 = .ok (.if_icmp .ne 15, 3) := by decide +kernel
theorem dX6_see_5 : decode cX6_see 5 = .ok (.aload_n 0, 1) := by decide +kernel
theorem dX6_see_6 : decode cX6_see 6 = .ok (.getfield 23, 3) := by decide +kernel
theorem dX6_see_9 : decode cX6_see 9 = .ok (.getfield 198, 3) := by decide +kernel
theorem dX6_see_12 : decode cX6_see 12 = .ok (.invokevirtual 75, 3) := by decide +kernel
theorem dX6_see_15 : decode cX6_see 15 = .ok (.iconst 0, 1) := by decide +kernel
theorem dX6_see_16 : decode cX6_see 16 = .ok (.ireturn, 1) := by decide +kernel
theorem dX6_see_17 : decode cX6_see 17 = .ok (.iload_n 1, 1) := by decide +kernel
theorem dX6_see_18 : decode cX6_see 18 = .ok (.iload_n 2, 1) := by decide +kernel
theorem dX6_see_19 : decode cX6_see 19 = .ok (.invokestatic 132, 3) := by decide +kernel
theorem dX6_see_22 : decode cX6_see 22 = .ok (.ifCond .ne 5, 3) := by decide +kernel
theorem dX6_see_25 : decode cX6_see 25 = .ok (.iconst (-1), 1) := by decide +kernel
theorem dX6_see_26 : decode cX6_see 26 = .ok (.ireturn, 1) := by decide +kernel
theorem dX6_see_27 : decode cX6_see 27 = .ok (.iload_n 3, 1) := by decide +kernel
theorem dX6_see_28 : decode cX6_see 28 = .ok (.iconst 0, 1) := by decide +kernel
theorem dX6_see_29 : decode cX6_see 29 = .ok (.sipush 2400, 3) := by decide +kernel
theorem dX6_see_32 : decode cX6_see 32 = .ok (.invokestatic 58, 3) := by decide +kernel
theorem dX6_see_35 : decode cX6_see 35 = .ok (.ifCond .eq 19, 3) := by decide +kernel
theorem dX6_see_38 : decode cX6_see 38 = .ok (.aload_n 0, 1) := by decide +kernel
theorem dX6_see_39 : decode cX6_see 39 = .ok (.getfield 23, 3) := by decide +kernel
theorem dX6_see_42 : decode cX6_see 42 = .ok (.getfield 198, 3) := by decide +kernel
theorem dX6_see_45 : decode cX6_see 45 = .ok (.iload_n 1, 1) := by decide +kernel
theorem dX6_see_46 : decode cX6_see 46 = .ok (.iload_n 2, 1) := by decide +kernel
theorem dX6_see_47 : decode cX6_see 47 = .ok (.iload_n 3, 1) := by decide +kernel
theorem dX6_see_48 : decode cX6_see 48 = .ok (.invokevirtual 66, 3) := by decide +kernel
theorem dX6_see_51 : decode cX6_see 51 = .ok (.goto 5, 3) := by decide +kernel
theorem dX6_see_54 : decode cX6_see 54 = .ok (.bipush (-2), 2) := by decide +kernel
theorem dX6_see_56 : decode cX6_see 56 = .ok (.ireturn, 1) := by decide +kernel
set_option maxRecDepth 20000 in
theorem ggX6_fits_X6_isSeenBy : GoodIn wsX6_fits wsX6_isSeenBy := goodIn_r _ [6, 7, 8, 9, 10, 11, 12, 13, 14, 15, 16, 17, 18, 19, 20, 5, 21, 22, 23, 24, 25, 26, 27, 28, 29, 30, 31, 32, 33, 34, 35, 36, 37, 38, 39, 40, 41, 42, 43, 44, 45, 46, 47, 48, 49, 50, 51] (by decide +kernel) (by decide +kernel)
set_option maxRecDepth 20000 in
theorem gX6_fits_X6_isSeenBy : GoodIn wsX6_fits (wsV RX6 205 RX6 yX6_isSeenBy wsX6_isSeenBy) := goodIn_app (goodIn_of _ (by decide +kernel)) ggX6_fits_X6_isSeenBy
theorem dX6_fits_0 : decode cX6_fits 0 = .ok (.iconst 0, 1) := by decide +kernel
theorem dX6_fits_1 : decode cX6_fits 1 = .ok (.istore_n 1, 1) := by decide +kernel
theorem dX6_fits_2 : decode cX6_fits 2 = .ok (.iconst 0, 1) := by decide +kernel
theorem dX6_fits_3 : decode cX6_fits 3 = .ok (.istore_n 2, 1) := by decide +kernel
theorem dX6_fits_4 : decode cX6_fits 4 = .ok (.iload_n 2, 1) := by decide +kernel
theorem dX6_fits_5 : decode cX6_fits 5 = .ok (.getstatic 201, 3) := by decide +kernel
theorem dX6_fits_8 : decode cX6_fits 8 = .ok (.arraylength, 1) := by decide +kernel
theorem dX6_fits_9 : decode cX6_fits 9 = .ok (.if_icmp .ge 27, 3) := by decide +kernel
theorem dX6_fits_12 : decode cX6_fits 12 = .ok (.aload_n 0, 1) := by decide +kernel
theorem dX6_fits_13 : decode cX6_fits 13 = .ok (.getstatic 201, 3) := by decide +kernel
theorem dX6_fits_16 : decode cX6_fits 16 = .ok (.iload_n 2, 1) := by decide +kernel
theorem dX6_fits_17 : decode cX6_fits 17 = .ok (.iaload, 1) := by decide +kernel
theorem dX6_fits_18 : decode cX6_fits 18 = .ok (.invokevirtual 205, 3) := by decide +kernel
theorem dX6_fits_21 : decode cX6_fits 21 = .ok (.ifCond .eq 9, 3) := by decide +kernel
theorem dX6_fits_24 : decode cX6_fits 24 = .ok (.iload_n 1, 1) := by decide +kernel
theorem dX6_fits_25 : decode cX6_fits 25 = .ok (.iconst 1, 1) := by decide +kernel
theorem dX6_fits_26 : decode cX6_fits 26 = .ok (.iload_n 2, 1) := by decide +kernel
theorem dX6_fits_27 : decode cX6_fits 27 = .ok (.ishl, 1) := by decide +kernel
theorem dX6_fits_28 : decode cX6_fits 28 = .ok (.ior, 1) := by decide +kernel
theorem dX6_fits_29 : decode cX6_fits 29 = .ok (.istore_n 1, 1) := by decide +kernel
theorem dX6_fits_30 : decode cX6_fits 30 = .ok (.iinc 2 1, 3) := by decide +kernel
theorem dX6_fits_33 : decode cX6_fits 33 = .ok (.goto (-29), 3) := by decide +kernel
theorem dX6_fits_36 : decode cX6_fits 36 = .ok (.iload_n 1, 1) := by decide +kernel
theorem dX6_fits_37 : decode cX6_fits 37 = .ok (.ireturn, 1) := by decide +kernel
set_option maxRecDepth 20000 in
theorem ggX6_isSeenBy_X0_powerOf : GoodIn wsX6_isSeenBy wsX0_powerOf := goodIn_r _ [6] (by decide +kernel) (by decide +kernel)
set_option maxRecDepth 20000 in
theorem gX6_isSeenBy_X0_powerOf : GoodIn wsX6_isSeenBy (va_wsS RX6 208 yX0_powerOf wsX0_powerOf) := goodIn_app (goodIn_of _ (by decide +kernel)) ggX6_isSeenBy_X0_powerOf
set_option maxRecDepth 20000 in
theorem ggX6_isSeenBy_X1_number : GoodIn wsX6_isSeenBy wsX1_number := goodIn_r _ [11, 12, 13, 14, 15, 16, 44, 45] (by decide +kernel) (by decide +kernel)
set_option maxRecDepth 20000 in
theorem gX6_isSeenBy_X1_number : GoodIn wsX6_isSeenBy (wsV RX6 97 RX1 yX1_number wsX1_number) := goodIn_app (goodIn_of _ (by decide +kernel)) ggX6_isSeenBy_X1_number
set_option maxRecDepth 20000 in
theorem ggX6_isSeenBy_X5_remainder : GoodIn wsX6_isSeenBy wsX5_remainder := goodIn_r _ [21, 22, 23, 24, 20, 25, 26, 46] (by decide +kernel) (by decide +kernel)
set_option maxRecDepth 20000 in
theorem gX6_isSeenBy_X5_remainder : GoodIn wsX6_isSeenBy (wsV RX6 211 RX5 yX5_remainder wsX5_remainder) := goodIn_app (goodIn_of _ (by decide +kernel)) ggX6_isSeenBy_X5_remainder
theorem dX6_isSeenBy_0 : decode cX6_isSeenBy 0 = .ok (.iload_n 1, 1) := by decide +kernel
theorem dX6_isSeenBy_1 : decode cX6_isSeenBy 1 = .ok (.aload_n 0, 1) := by decide +kernel
theorem dX6_isSeenBy_2 : decode cX6_isSeenBy 2 = .ok (.getfield 23, 3) := by decide +kernel
theorem dX6_isSeenBy_5 : decode cX6_isSeenBy 5 = .ok (.getfield 51, 3) := by decide +kernel
theorem dX6_isSeenBy_8 : decode cX6_isSeenBy 8 = .ok (.invokestatic 208, 3) := by decide +kernel
theorem dX6_isSeenBy_11 : decode cX6_isSeenBy 11 = .ok (.istore_n 2, 1) := by decide +kernel
theorem dX6_isSeenBy_12 : decode cX6_isSeenBy 12 = .ok (.iconst 0, 1) := by decide +kernel
theorem dX6_isSeenBy_13 : decode cX6_isSeenBy 13 = .ok (.istore_n 3, 1) := by decide +kernel
theorem dX6_isSeenBy_14 : decode cX6_isSeenBy 14 = .ok (.iload_n 3, 1) := by decide +kernel
theorem dX6_isSeenBy_15 : decode cX6_isSeenBy 15 = .ok (.aload_n 0, 1) := by decide +kernel
theorem dX6_isSeenBy_16 : decode cX6_isSeenBy 16 = .ok (.getfield 23, 3) := by decide +kernel
theorem dX6_isSeenBy_19 : decode cX6_isSeenBy 19 = .ok (.getfield 198, 3) := by decide +kernel
theorem dX6_isSeenBy_22 : decode cX6_isSeenBy 22 = .ok (.getfield 72, 3) := by decide +kernel
theorem dX6_isSeenBy_25 : decode cX6_isSeenBy 25 = .ok (.if_icmp .ge 58, 3) := by decide +kernel
theorem dX6_isSeenBy_28 : decode cX6_isSeenBy 28 = .ok (.aload_n 0, 1) := by decide +kernel
theorem dX6_isSeenBy_29 : decode cX6_isSeenBy 29 = .ok (.getfield 12, 3) := by decide +kernel
theorem dX6_isSeenBy_32 : decode cX6_isSeenBy 32 = .ok (.aload_n 0, 1) := by decide +kernel
theorem dX6_isSeenBy_33 : decode cX6_isSeenBy 33 = .ok (.getfield 23, 3) := by decide +kernel
theorem dX6_isSeenBy_36 : decode cX6_isSeenBy 36 = .ok (.getfield 198, 3) := by decide +kernel
theorem dX6_isSeenBy_39 : decode cX6_isSeenBy 39 = .ok (.iload_n 3, 1) := by decide +kernel
theorem dX6_isSeenBy_40 : decode cX6_isSeenBy 40 = .ok (.iconst 0, 1) := by decide +kernel
theorem dX6_isSeenBy_41 : decode cX6_isSeenBy 41 = .ok (.invokevirtual 97, 3) := by decide +kernel
theorem dX6_isSeenBy_44 : decode cX6_isSeenBy 44 = .ok (.aload_n 0, 1) := by decide +kernel
theorem dX6_isSeenBy_45 : decode cX6_isSeenBy 45 = .ok (.getfield 23, 3) := by decide +kernel
theorem dX6_isSeenBy_48 : decode cX6_isSeenBy 48 = .ok (.getfield 198, 3) := by decide +kernel
theorem dX6_isSeenBy_51 : decode cX6_isSeenBy 51 = .ok (.iload_n 3, 1) := by decide +kernel
theorem dX6_isSeenBy_52 : decode cX6_isSeenBy 52 = .ok (.iconst 1, 1) := by decide +kernel
theorem dX6_isSeenBy_53 : decode cX6_isSeenBy 53 = .ok (.invokevirtual 97, 3) := by decide +kernel
theorem dX6_isSeenBy_56 : decode cX6_isSeenBy 56 = .ok (.iload_n 2, 1) := by decide +kernel
theorem dX6_isSeenBy_57 : decode cX6_isSeenBy 57 = .ok (.invokevirtual 211, 3) := by decide +kernel
theorem dX6_isSeenBy_60 : decode cX6_isSeenBy 60 = .ok (.aload_n 0, 1) := by decide +kernel
theorem dX6_isSeenBy_61 : decode cX6_isSeenBy 61 = .ok (.getfield 23, 3) := by decide +kernel
theorem dX6_isSeenBy_64 : decode cX6_isSeenBy 64 = .ok (.getfield 198, 3) := by decide +kernel
theorem dX6_isSeenBy_67 : decode cX6_isSeenBy 67 = .ok (.iload_n 3, 1) := by decide +kernel
theorem dX6_isSeenBy_68 : decode cX6_isSeenBy 68 = .ok (.iconst 2, 1) := by decide +kernel
theorem dX6_isSeenBy_69 : decode cX6_isSeenBy 69 = .ok (.invokevirtual 97, 3) := by decide +kernel
theorem dX6_isSeenBy_72 : decode cX6_isSeenBy 72 = .ok (.if_icmp .eq 5, 3) := by decide +kernel
theorem dX6_isSeenBy_75 : decode cX6_isSeenBy 75 = .ok (.iconst 0, 1) := by decide +kernel
theorem dX6_isSeenBy_76 : decode cX6_isSeenBy 76 = .ok (.ireturn, 1) := by decide +kernel
theorem dX6_isSeenBy_77 : decode cX6_isSeenBy 77 = .ok (.iinc 3 1, 3) := by decide +kernel
theorem dX6_isSeenBy_80 : decode cX6_isSeenBy 80 = .ok (.goto (-66), 3) := by decide +kernel
theorem dX6_isSeenBy_83 : decode cX6_isSeenBy 83 = .ok (.iconst 1, 1) := by decide +kernel
theorem dX6_isSeenBy_84 : decode cX6_isSeenBy 84 = .ok (.ireturn, 1) := by decide +kernel
set_option maxRecDepth 20000 in
theorem ggX6_odds_X6_isRow : GoodIn wsX6_odds wsX6_isRow := goodIn_r _ [6, 7, 8, 5, 9] (by decide +kernel) (by decide +kernel)
set_option maxRecDepth 20000 in
theorem gX6_odds_X6_isRow : GoodIn wsX6_odds (va_wsS RX6 125 yX6_isRow wsX6_isRow) := goodIn_app (goodIn_of _ (by decide +kernel)) ggX6_odds_X6_isRow
set_option maxRecDepth 20000 in
theorem ggX6_odds_X6_isWithin : GoodIn wsX6_odds wsX6_isWithin := goodIn_r _ [9] (by decide +kernel) (by decide +kernel)
set_option maxRecDepth 20000 in
theorem gX6_odds_X6_isWithin : GoodIn wsX6_odds (va_wsS RX6 58 yX6_isWithin wsX6_isWithin) := goodIn_app (goodIn_of _ (by decide +kernel)) ggX6_odds_X6_isWithin
set_option maxRecDepth 20000 in
theorem ggX6_odds_X3_tell : GoodIn wsX6_odds wsX3_tell := goodIn_r _ [14, 15, 16, 17, 18, 19, 20, 21, 22, 23, 24, 25, 26, 27, 28, 29, 30, 31, 32, 33, 34, 35, 36, 37, 38, 39, 40, 41, 55, 56, 57, 58, 59, 60, 61, 62, 63, 64, 65] (by decide +kernel) (by decide +kernel)
set_option maxRecDepth 20000 in
theorem gX6_odds_X3_tell : GoodIn wsX6_odds (wsV RX6 136 RX3 yX3_tell wsX3_tell) := goodIn_app (goodIn_of _ (by decide +kernel)) ggX6_odds_X3_tell
set_option maxRecDepth 20000 in
theorem ggX6_odds_X6_partOfFraction : GoodIn wsX6_odds wsX6_partOfFraction := goodIn_r _ [44, 45, 46, 34, 47] (by decide +kernel) (by decide +kernel)
set_option maxRecDepth 20000 in
theorem gX6_odds_X6_partOfFraction : GoodIn wsX6_odds (va_wsS RX6 215 yX6_partOfFraction wsX6_partOfFraction) := goodIn_app (goodIn_of _ (by decide +kernel)) ggX6_odds_X6_partOfFraction
theorem dX6_odds_0 : decode cX6_odds 0 = .ok (.iload_n 1, 1) := by decide +kernel
theorem dX6_odds_1 : decode cX6_odds 1 = .ok (.invokestatic 125, 3) := by decide +kernel
theorem dX6_odds_4 : decode cX6_odds 4 = .ok (.ifCond .eq 22, 3) := by decide +kernel
theorem dX6_odds_7 : decode cX6_odds 7 = .ok (.iload_n 2, 1) := by decide +kernel
theorem dX6_odds_8 : decode cX6_odds 8 = .ok (.iconst 0, 1) := by decide +kernel
theorem dX6_odds_9 : decode cX6_odds 9 = .ok (.iconst 4, 1) := by decide +kernel
theorem dX6_odds_10 : decode cX6_odds 10 = .ok (.invokestatic 58, 3) := by decide +kernel
theorem dX6_odds_13 : decode cX6_odds 13 = .ok (.ifCond .eq 13, 3) := by decide +kernel
theorem dX6_odds_16 : decode cX6_odds 16 = .ok (.iload 4, 2) := by decide +kernel
theorem dX6_odds_18 : decode cX6_odds 18 = .ok (.iconst 0, 1) := by decide +kernel
theorem dX6_odds_19 : decode cX6_odds 19 = .ok (.iconst 1, 1) := by decide +kernel
theorem dX6_odds_20 : decode cX6_odds 20 = .ok (.invokestatic 58, 3) := by decide +kernel
theorem dX6_odds_23 : decode cX6_odds 23 = .ok (.ifCond .ne 7, 3) := by decide +kernel
theorem dX6_odds_26 : decode cX6_odds 26 = .ok (.ldc2_w 213, 3) := by decide +kernel
theorem dX6_odds_29 : decode cX6_odds 29 = .ok (.lreturn, 1) := by decide +kernel
theorem dX6_odds_30 : decode cX6_odds 30 = .ok (.iconst 0, 1) := by decide +kernel
theorem dX6_odds_31 : decode cX6_odds 31 = .ok (.istore 5, 2) := by decide +kernel
theorem dX6_odds_33 : decode cX6_odds 33 = .ok (.iconst 0, 1) := by decide +kernel
theorem dX6_odds_34 : decode cX6_odds 34 = .ok (.istore 6, 2) := by decide +kernel
theorem dX6_odds_36 : decode cX6_odds 36 = .ok (.iload 6, 2) := by decide +kernel
theorem dX6_odds_38 : decode cX6_odds 38 = .ok (.iload_n 1, 1) := by decide +kernel
theorem dX6_odds_39 : decode cX6_odds 39 = .ok (.if_icmp .gt 27, 3) := by decide +kernel
theorem dX6_odds_42 : decode cX6_odds 42 = .ok (.aload_n 0, 1) := by decide +kernel
theorem dX6_odds_43 : decode cX6_odds 43 = .ok (.getfield 23, 3) := by decide +kernel
theorem dX6_odds_46 : decode cX6_odds 46 = .ok (.iload_n 2, 1) := by decide +kernel
theorem dX6_odds_47 : decode cX6_odds 47 = .ok (.iload_n 1, 1) := by decide +kernel
theorem dX6_odds_48 : decode cX6_odds 48 = .ok (.iload 6, 2) := by decide +kernel
theorem dX6_odds_50 : decode cX6_odds 50 = .ok (.invokevirtual 136, 3) := by decide +kernel
theorem dX6_odds_53 : decode cX6_odds 53 = .ok (.iload_n 3, 1) := by decide +kernel
theorem dX6_odds_54 : decode cX6_odds 54 = .ok (.if_icmp .ne 6, 3) := by decide +kernel
theorem dX6_odds_57 : decode cX6_odds 57 = .ok (.iinc 5 1, 3) := by decide +kernel
theorem dX6_odds_60 : decode cX6_odds 60 = .ok (.iinc 6 1, 3) := by decide +kernel
theorem dX6_odds_63 : decode cX6_odds 63 = .ok (.goto (-27), 3) := by decide +kernel
theorem dX6_odds_66 : decode cX6_odds 66 = .ok (.iload 5, 2) := by decide +kernel
theorem dX6_odds_68 : decode cX6_odds 68 = .ok (.iload_n 1, 1) := by decide +kernel
theorem dX6_odds_69 : decode cX6_odds 69 = .ok (.iconst 1, 1) := by decide +kernel
theorem dX6_odds_70 : decode cX6_odds 70 = .ok (.iadd, 1) := by decide +kernel
theorem dX6_odds_71 : decode cX6_odds 71 = .ok (.iload 4, 2) := by decide +kernel
theorem dX6_odds_73 : decode cX6_odds 73 = .ok (.invokestatic 215, 3) := by decide +kernel
theorem dX6_odds_76 : decode cX6_odds 76 = .ok (.i2l, 1) := by decide +kernel
theorem dX6_odds_77 : decode cX6_odds 77 = .ok (.lreturn, 1) := by decide +kernel
set_option maxRecDepth 20000 in
theorem ggX6_mean_X6_isRow : GoodIn wsX6_mean wsX6_isRow := goodIn_r _ [5, 6, 7, 4, 8] (by decide +kernel) (by decide +kernel)
set_option maxRecDepth 20000 in
theorem gX6_mean_X6_isRow : GoodIn wsX6_mean (va_wsS RX6 125 yX6_isRow wsX6_isRow) := goodIn_app (goodIn_of _ (by decide +kernel)) ggX6_mean_X6_isRow
set_option maxRecDepth 20000 in
theorem ggX6_mean_X6_isWithin : GoodIn wsX6_mean wsX6_isWithin := goodIn_r _ [8] (by decide +kernel) (by decide +kernel)
set_option maxRecDepth 20000 in
theorem gX6_mean_X6_isWithin : GoodIn wsX6_mean (va_wsS RX6 58 yX6_isWithin wsX6_isWithin) := goodIn_app (goodIn_of _ (by decide +kernel)) ggX6_mean_X6_isWithin
set_option maxRecDepth 20000 in
theorem ggX6_mean_X6_sumOf : GoodIn wsX6_mean wsX6_sumOf := goodIn_r _ [12, 13, 14, 15, 16, 17, 18, 19, 20, 21, 22, 23, 24, 25, 26, 27, 28, 29, 30, 38, 39, 40, 41, 42, 43, 44, 45, 46, 47, 48, 49, 50, 51, 52, 53, 54, 55] (by decide +kernel) (by decide +kernel)
set_option maxRecDepth 20000 in
theorem gX6_mean_X6_sumOf : GoodIn wsX6_mean (wsV RX6 165 RX6 yX6_sumOf wsX6_sumOf) := goodIn_app (goodIn_of _ (by decide +kernel)) ggX6_mean_X6_sumOf
set_option maxRecDepth 20000 in
theorem ggX6_mean_X6_partOfFraction : GoodIn wsX6_mean wsX6_partOfFraction := goodIn_r _ [33, 34, 35, 36, 37] (by decide +kernel) (by decide +kernel)
set_option maxRecDepth 20000 in
theorem gX6_mean_X6_partOfFraction : GoodIn wsX6_mean (va_wsS RX6 215 yX6_partOfFraction wsX6_partOfFraction) := goodIn_app (goodIn_of _ (by decide +kernel)) ggX6_mean_X6_partOfFraction
theorem dX6_mean_0 : decode cX6_mean 0 = .ok (.iload_n 1, 1) := by decide +kernel
theorem dX6_mean_1 : decode cX6_mean 1 = .ok (.invokestatic 125, 3) := by decide +kernel
theorem dX6_mean_4 : decode cX6_mean 4 = .ok (.ifCond .eq 12, 3) := by decide +kernel
theorem dX6_mean_7 : decode cX6_mean 7 = .ok (.iload_n 2, 1) := by decide +kernel
theorem dX6_mean_8 : decode cX6_mean 8 = .ok (.iconst 0, 1) := by decide +kernel
theorem dX6_mean_9 : decode cX6_mean 9 = .ok (.iconst 1, 1) := by decide +kernel
theorem dX6_mean_10 : decode cX6_mean 10 = .ok (.invokestatic 58, 3) := by decide +kernel
theorem dX6_mean_13 : decode cX6_mean 13 = .ok (.ifCond .ne 7, 3) := by decide +kernel
theorem dX6_mean_16 : decode cX6_mean 16 = .ok (.ldc2_w 213, 3) := by decide +kernel
theorem dX6_mean_19 : decode cX6_mean 19 = .ok (.lreturn, 1) := by decide +kernel
theorem dX6_mean_20 : decode cX6_mean 20 = .ok (.aload_n 0, 1) := by decide +kernel
theorem dX6_mean_21 : decode cX6_mean 21 = .ok (.iload_n 1, 1) := by decide +kernel
theorem dX6_mean_22 : decode cX6_mean 22 = .ok (.invokevirtual 165, 3) := by decide +kernel
theorem dX6_mean_25 : decode cX6_mean 25 = .ok (.iload_n 1, 1) := by decide +kernel
theorem dX6_mean_26 : decode cX6_mean 26 = .ok (.iconst 1, 1) := by decide +kernel
theorem dX6_mean_27 : decode cX6_mean 27 = .ok (.iadd, 1) := by decide +kernel
theorem dX6_mean_28 : decode cX6_mean 28 = .ok (.iload_n 2, 1) := by decide +kernel
theorem dX6_mean_29 : decode cX6_mean 29 = .ok (.invokestatic 215, 3) := by decide +kernel
theorem dX6_mean_32 : decode cX6_mean 32 = .ok (.i2l, 1) := by decide +kernel
theorem dX6_mean_33 : decode cX6_mean 33 = .ok (.lreturn, 1) := by decide +kernel
set_option maxRecDepth 20000 in
theorem ggX6_partOfFraction_X0_commonDivisor : GoodIn wsX6_partOfFraction wsX0_commonDivisor := goodIn_r _ [4] (by decide +kernel) (by decide +kernel)
set_option maxRecDepth 20000 in
theorem gX6_partOfFraction_X0_commonDivisor : GoodIn wsX6_partOfFraction (va_wsS RX6 218 yX0_commonDivisor wsX0_commonDivisor) := goodIn_app (goodIn_of _ (by decide +kernel)) ggX6_partOfFraction_X0_commonDivisor
theorem dX6_partOfFraction_0 : decode cX6_partOfFraction 0 = .ok (.iload_n 0, 1) := by decide +kernel
theorem dX6_partOfFraction_1 : decode cX6_partOfFraction 1 = .ok (.iload_n 1, 1) := by decide +kernel
theorem dX6_partOfFraction_2 : decode cX6_partOfFraction 2 = .ok (.invokestatic 218, 3) := by decide +kernel
theorem dX6_partOfFraction_5 : decode cX6_partOfFraction 5 = .ok (.istore_n 3, 1) := by decide +kernel
theorem dX6_partOfFraction_6 : decode cX6_partOfFraction 6 = .ok (.iload_n 2, 1) := by decide +kernel
theorem dX6_partOfFraction_7 : decode cX6_partOfFraction 7 = .ok (.ifCond .ne 7, 3) := by decide +kernel
theorem dX6_partOfFraction_10 : decode cX6_partOfFraction 10 = .ok (.iload_n 0, 1) := by decide +kernel
theorem dX6_partOfFraction_11 : decode cX6_partOfFraction 11 = .ok (.goto 4, 3) := by decide +kernel
theorem dX6_partOfFraction_14 : decode cX6_partOfFraction 14 = .ok (.iload_n 1, 1) := by decide +kernel
theorem dX6_partOfFraction_15 : decode cX6_partOfFraction 15 = .ok (.istore 4, 2) := by decide +kernel
theorem dX6_partOfFraction_17 : decode cX6_partOfFraction 17 = .ok (.iload_n 3, 1) := by decide +kernel
theorem dX6_partOfFraction_18 : decode cX6_partOfFraction 18 = .ok (.ifCond .le 10, 3) := by decide +kernel
theorem dX6_partOfFraction_21 : decode cX6_partOfFraction 21 = .ok (.iload 4, 2) := by decide +kernel
theorem dX6_partOfFraction_23 : decode cX6_partOfFraction 23 = .ok (.iload_n 3, 1) := by decide +kernel
theorem dX6_partOfFraction_24 : decode cX6_partOfFraction 24 = .ok (.idiv, 1) := by decide +kernel
theorem dX6_partOfFraction_25 : decode cX6_partOfFraction 25 = .ok (.goto 5, 3) := by decide +kernel
theorem dX6_partOfFraction_28 : decode cX6_partOfFraction 28 = .ok (.iload 4, 2) := by decide +kernel
theorem dX6_partOfFraction_30 : decode cX6_partOfFraction 30 = .ok (.ireturn, 1) := by decide +kernel
set_option maxRecDepth 20000 in
theorem ggX6_event_X1_empty : GoodIn wsX6_event wsX1_empty := goodIn_r _ [6, 7, 38, 39] (by decide +kernel) (by decide +kernel)
set_option maxRecDepth 20000 in
theorem gX6_event_X1_empty : GoodIn wsX6_event (wsV RX6 75 RX1 yX1_empty wsX1_empty) := goodIn_app (goodIn_of _ (by decide +kernel)) ggX6_event_X1_empty
set_option maxRecDepth 20000 in
theorem ggX6_event_X6_addEvent : GoodIn wsX6_event wsX6_addEvent := goodIn_r _ [12, 1, 13, 14, 11, 15, 16, 17, 18, 5, 19, 7, 20, 21, 22, 23, 24, 25, 26, 27, 28, 29, 30, 31, 32, 33, 34, 35, 36, 37, 38, 39] (by decide +kernel) (by decide +kernel)
set_option maxRecDepth 20000 in
theorem gX6_event_X6_addEvent : GoodIn wsX6_event (wsV RX6 224 RX6 yX6_addEvent wsX6_addEvent) := goodIn_app (goodIn_of _ (by decide +kernel)) ggX6_event_X6_addEvent
theorem dX6_event_0 : decode cX6_event 0 = .ok (.iload_n 1, 1) := by decide +kernel
theorem dX6_event_1 : decode cX6_event 1 = .ok (.iconst (-1), 1) := by decide +kernel
theorem dX6_event_2 : decode cX6_event 2 = .ok (.if_icmp .ne 15, 3) := by decide +kernel
theorem dX6_event_5 : decode cX6_event 5 = .ok (.aload_n 0, 1) := by decide +kernel
theorem dX6_event_6 : decode cX6_event 6 = .ok (.getfield 23, 3) := by decide +kernel
theorem dX6_event_9 : decode cX6_event 9 = .ok (.getfield 221, 3) := by decide +kernel
theorem dX6_event_12 : decode cX6_event 12 = .ok (.invokevirtual 75, 3) := by decide +kernel
theorem dX6_event_15 : decode cX6_event 15 = .ok (.iconst 0, 1) := by decide +kernel
theorem dX6_event_16 : decode cX6_event 16 = .ok (.ireturn, 1) := by decide +kernel
theorem dX6_event_17 : decode cX6_event 17 = .ok (.iload_n 1, 1) := by decide +kernel
theorem dX6_event_18 : decode cX6_event 18 = .ok (.tableswitch 67 0 3 #[30, 39, 48, 58], 30) := by decide +kernel
theorem dX6_event_48 : decode cX6_event 48 = .ok (.aload_n 0, 1) := by decide +kernel
theorem dX6_event_49 : decode cX6_event 49 = .ok (.iload_n 1, 1) := by decide +kernel
theorem dX6_event_50 : decode cX6_event 50 = .ok (.iload_n 2, 1) := by decide +kernel
theorem dX6_event_51 : decode cX6_event 51 = .ok (.iconst 0, 1) := by decide +kernel
theorem dX6_event_52 : decode cX6_event 52 = .ok (.iconst 0, 1) := by decide +kernel
theorem dX6_event_53 : decode cX6_event 53 = .ok (.invokevirtual 224, 3) := by decide +kernel
theorem dX6_event_56 : decode cX6_event 56 = .ok (.ireturn, 1) := by decide +kernel
theorem dX6_event_57 : decode cX6_event 57 = .ok (.aload_n 0, 1) := by decide +kernel
theorem dX6_event_58 : decode cX6_event 58 = .ok (.iload_n 1, 1) := by decide +kernel
theorem dX6_event_59 : decode cX6_event 59 = .ok (.iload_n 2, 1) := by decide +kernel
theorem dX6_event_60 : decode cX6_event 60 = .ok (.iconst 1, 1) := by decide +kernel
theorem dX6_event_61 : decode cX6_event 61 = .ok (.iconst 4, 1) := by decide +kernel
theorem dX6_event_62 : decode cX6_event 62 = .ok (.invokevirtual 224, 3) := by decide +kernel
theorem dX6_event_65 : decode cX6_event 65 = .ok (.ireturn, 1) := by decide +kernel
theorem dX6_event_66 : decode cX6_event 66 = .ok (.aload_n 0, 1) := by decide +kernel
theorem dX6_event_67 : decode cX6_event 67 = .ok (.iload_n 1, 1) := by decide +kernel
theorem dX6_event_68 : decode cX6_event 68 = .ok (.iload_n 2, 1) := by decide +kernel
theorem dX6_event_69 : decode cX6_event 69 = .ok (.iconst 0, 1) := by decide +kernel
theorem dX6_event_70 : decode cX6_event 70 = .ok (.bipush 99, 2) := by decide +kernel
theorem dX6_event_72 : decode cX6_event 72 = .ok (.invokevirtual 224, 3) := by decide +kernel
theorem dX6_event_75 : decode cX6_event 75 = .ok (.ireturn, 1) := by decide +kernel
theorem dX6_event_76 : decode cX6_event 76 = .ok (.aload_n 0, 1) := by decide +kernel
theorem dX6_event_77 : decode cX6_event 77 = .ok (.iload_n 1, 1) := by decide +kernel
theorem dX6_event_78 : decode cX6_event 78 = .ok (.iload_n 2, 1) := by decide +kernel
theorem dX6_event_79 : decode cX6_event 79 = .ok (.iconst 0, 1) := by decide +kernel
theorem dX6_event_80 : decode cX6_event 80 = .ok (.iconst 5, 1) := by decide +kernel
theorem dX6_event_81 : decode cX6_event 81 = .ok (.invokevirtual 224, 3) := by decide +kernel
theorem dX6_event_84 : decode cX6_event 84 = .ok (.ireturn, 1) := by decide +kernel
theorem dX6_event_85 : decode cX6_event 85 = .ok (.iconst (-1), 1) := by decide +kernel
theorem dX6_event_86 : decode cX6_event 86 = .ok (.ireturn, 1) := by decide +kernel
set_option maxRecDepth 20000 in
theorem ggX6_addEvent_X6_isWithin : GoodIn wsX6_addEvent wsX6_isWithin := goodIn_r _ [5] (by decide +kernel) (by decide +kernel)
set_option maxRecDepth 20000 in
theorem gX6_addEvent_X6_isWithin : GoodIn wsX6_addEvent (va_wsS RX6 58 yX6_isWithin wsX6_isWithin) := goodIn_app (goodIn_of _ (by decide +kernel)) ggX6_addEvent_X6_isWithin
set_option maxRecDepth 20000 in
theorem ggX6_addEvent_X1_add : GoodIn wsX6_addEvent wsX1_add := goodIn_r _ [10, 11, 12, 30, 31] (by decide +kernel) (by decide +kernel)
set_option maxRecDepth 20000 in
theorem gX6_addEvent_X1_add : GoodIn wsX6_addEvent (wsV RX6 66 RX1 yX1_add wsX1_add) := goodIn_app (goodIn_of _ (by decide +kernel)) ggX6_addEvent_X1_add
theorem dX6_addEvent_0 : decode cX6_addEvent 0 = .ok (.iload_n 2, 1) := by decide +kernel
theorem dX6_addEvent_1 : decode cX6_addEvent 1 = .ok (.iload_n 3, 1) := by decide +kernel
theorem dX6_addEvent_2 : decode cX6_addEvent 2 = .ok (.iload 4, 2) := by decide +kernel
theorem dX6_addEvent_4 : decode cX6_addEvent 4 = .ok (.invokestatic 58, 3) := by decide +kernel
theorem dX6_addEvent_7 : decode cX6_addEvent 7 = .ok (.ifCond .eq 19, 3) := by decide +kernel
theorem dX6_addEvent_10 : decode cX6_addEvent 10 = .ok (.aload_n 0, 1) := by decide +kernel
theorem dX6_addEvent_11 : decode cX6_addEvent 11 = .ok (.getfield 23, 3) := by decide +kernel
theorem dX6_addEvent_14 : decode cX6_addEvent 14 = .ok (.getfield 221, 3) := by decide +kernel
theorem dX6_addEvent_17 : decode cX6_addEvent 17 = .ok (.iload_n 1, 1) := by decide +kernel
theorem dX6_addEvent_18 : decode cX6_addEvent 18 = .ok (.iload_n 2, 1) := by decide +kernel
theorem dX6_addEvent_19 : decode cX6_addEvent 19 = .ok (.iconst 0, 1) := by decide +kernel
theorem dX6_addEvent_20 : decode cX6_addEvent 20 = .ok (.invokevirtual 66, 3) := by decide +kernel
theorem dX6_addEvent_23 : decode cX6_addEvent 23 = .ok (.goto 5, 3) := by decide +kernel
theorem dX6_addEvent_26 : decode cX6_addEvent 26 = .ok (.bipush (-2), 2) := by decide +kernel
theorem dX6_addEvent_28 : decode cX6_addEvent 28 = .ok (.ireturn, 1) := by decide +kernel
set_option maxRecDepth 20000 in
theorem ggX6_after_X6_isWithin : GoodIn wsX6_after wsX6_isWithin := goodIn_r _ [6] (by decide +kernel) (by decide +kernel)
set_option maxRecDepth 20000 in
theorem gX6_after_X6_isWithin : GoodIn wsX6_after (va_wsS RX6 58 yX6_isWithin wsX6_isWithin) := goodIn_app (goodIn_of _ (by decide +kernel)) ggX6_after_X6_isWithin
set_option maxRecDepth 20000 in
theorem ggX6_after_X3_copyFrom : GoodIn wsX6_after wsX3_copyFrom := goodIn_r _ [11, 12, 13, 14, 15, 16, 17, 18, 19, 20, 21, 22, 10, 23, 24, 25, 26, 27, 28, 29, 30, 31, 32, 33, 34, 35, 36, 37, 38, 39, 120, 121, 122, 123, 124, 125, 126, 127, 128, 129, 130, 131] (by decide +kernel) (by decide +kernel)
set_option maxRecDepth 20000 in
theorem gX6_after_X3_copyFrom : GoodIn wsX6_after (wsV RX6 228 RX3 yX3_copyFrom wsX3_copyFrom) := goodIn_app (goodIn_of _ (by decide +kernel)) ggX6_after_X3_copyFrom
set_option maxRecDepth 20000 in
theorem ggX6_after_X1_number : GoodIn wsX6_after wsX1_number := goodIn_r _ [43, 39, 34, 4, 5, 6, 130, 131] (by decide +kernel) (by decide +kernel)
set_option maxRecDepth 20000 in
theorem gX6_after_X1_number : GoodIn wsX6_after (wsV RX6 97 RX1 yX1_number wsX1_number) := goodIn_app (goodIn_of _ (by decide +kernel)) ggX6_after_X1_number
set_option maxRecDepth 20000 in
theorem ggX6_after_X3_happen : GoodIn wsX6_after wsX3_happen := goodIn_r _ [47, 13, 12, 14, 48, 49, 50, 51, 16, 52, 53, 54, 10, 55, 20, 21, 22, 23, 24, 25, 26, 27, 28, 56, 57, 58, 32, 59, 39, 34, 35, 36, 37, 38, 4, 5, 6, 120, 121, 122, 123, 124, 125, 126, 127, 128, 129, 130, 131] (by decide +kernel) (by decide +kernel)
set_option maxRecDepth 20000 in
theorem gX6_after_X3_happen : GoodIn wsX6_after (wsV RX6 232 RX3 yX3_happen wsX3_happen) := goodIn_app (goodIn_of _ (by decide +kernel)) ggX6_after_X3_happen
set_option maxRecDepth 20000 in
theorem ggX6_after_X3_markedInWindow : GoodIn wsX6_after wsX3_markedInWindow := goodIn_r _ [63, 64, 65, 66, 10, 67, 14, 15, 68, 69, 70, 71, 16, 72, 5, 73, 74, 75, 76, 3, 4, 6, 77, 41, 42, 32, 43, 39, 34, 78, 79, 80, 81, 82, 24, 12, 83, 84, 85, 86, 87, 88, 89, 90, 91, 92, 93, 94, 95, 96, 97, 98, 27, 99, 100, 101, 102, 103, 104, 105, 106, 107, 108, 109, 110, 111, 112, 120, 121, 122, 123, 124, 125, 126, 127, 128, 129, 130, 131, 132] (by decide +kernel) (by decide +kernel)
set_option maxRecDepth 20000 in
theorem gX6_after_X3_markedInWindow : GoodIn wsX6_after (wsV RX6 122 RX3 yX3_markedInWindow wsX3_markedInWindow) := goodIn_app (goodIn_of _ (by decide +kernel)) ggX6_after_X3_markedInWindow
theorem dX6_after_0 : decode cX6_after 0 = .ok (.iload_n 1, 1) := by decide +kernel
theorem dX6_after_1 : decode cX6_after 1 = .ok (.iconst 0, 1) := by decide +kernel
theorem dX6_after_2 : decode cX6_after 2 = .ok (.iconst 2, 1) := by decide +kernel
theorem dX6_after_3 : decode cX6_after 3 = .ok (.invokestatic 58, 3) := by decide +kernel
theorem dX6_after_6 : decode cX6_after 6 = .ok (.ifCond .ne 5, 3) := by decide +kernel
theorem dX6_after_9 : decode cX6_after 9 = .ok (.iconst (-1), 1) := by decide +kernel
theorem dX6_after_10 : decode cX6_after 10 = .ok (.ireturn, 1) := by decide +kernel
theorem dX6_after_11 : decode cX6_after 11 = .ok (.aload_n 0, 1) := by decide +kernel
theorem dX6_after_12 : decode cX6_after 12 = .ok (.getfield 30, 3) := by decide +kernel
theorem dX6_after_15 : decode cX6_after 15 = .ok (.aload_n 0, 1) := by decide +kernel
theorem dX6_after_16 : decode cX6_after 16 = .ok (.getfield 23, 3) := by decide +kernel
theorem dX6_after_19 : decode cX6_after 19 = .ok (.invokevirtual 228, 3) := by decide +kernel
theorem dX6_after_22 : decode cX6_after 22 = .ok (.iconst 0, 1) := by decide +kernel
theorem dX6_after_23 : decode cX6_after 23 = .ok (.istore_n 2, 1) := by decide +kernel
theorem dX6_after_24 : decode cX6_after 24 = .ok (.iload_n 2, 1) := by decide +kernel
theorem dX6_after_25 : decode cX6_after 25 = .ok (.aload_n 0, 1) := by decide +kernel
theorem dX6_after_26 : decode cX6_after 26 = .ok (.getfield 23, 3) := by decide +kernel
theorem dX6_after_29 : decode cX6_after 29 = .ok (.getfield 221, 3) := by decide +kernel
theorem dX6_after_32 : decode cX6_after 32 = .ok (.getfield 72, 3) := by decide +kernel
theorem dX6_after_35 : decode cX6_after 35 = .ok (.if_icmp .ge 40, 3) := by decide +kernel
theorem dX6_after_38 : decode cX6_after 38 = .ok (.aload_n 0, 1) := by decide +kernel
theorem dX6_after_39 : decode cX6_after 39 = .ok (.getfield 30, 3) := by decide +kernel
theorem dX6_after_42 : decode cX6_after 42 = .ok (.aload_n 0, 1) := by decide +kernel
theorem dX6_after_43 : decode cX6_after 43 = .ok (.getfield 23, 3) := by decide +kernel
theorem dX6_after_46 : decode cX6_after 46 = .ok (.getfield 221, 3) := by decide +kernel
theorem dX6_after_49 : decode cX6_after 49 = .ok (.iload_n 2, 1) := by decide +kernel
theorem dX6_after_50 : decode cX6_after 50 = .ok (.iconst 0, 1) := by decide +kernel
theorem dX6_after_51 : decode cX6_after 51 = .ok (.invokevirtual 97, 3) := by decide +kernel
theorem dX6_after_54 : decode cX6_after 54 = .ok (.aload_n 0, 1) := by decide +kernel
theorem dX6_after_55 : decode cX6_after 55 = .ok (.getfield 23, 3) := by decide +kernel
theorem dX6_after_58 : decode cX6_after 58 = .ok (.getfield 221, 3) := by decide +kernel
theorem dX6_after_61 : decode cX6_after 61 = .ok (.iload_n 2, 1) := by decide +kernel
theorem dX6_after_62 : decode cX6_after 62 = .ok (.iconst 1, 1) := by decide +kernel
theorem dX6_after_63 : decode cX6_after 63 = .ok (.invokevirtual 97, 3) := by decide +kernel
theorem dX6_after_66 : decode cX6_after 66 = .ok (.invokevirtual 232, 3) := by decide +kernel
theorem dX6_after_69 : decode cX6_after 69 = .ok (.iinc 2 1, 3) := by decide +kernel
theorem dX6_after_72 : decode cX6_after 72 = .ok (.goto (-48), 3) := by decide +kernel
theorem dX6_after_75 : decode cX6_after 75 = .ok (.iload_n 1, 1) := by decide +kernel
theorem dX6_after_76 : decode cX6_after 76 = .ok (.ifCond .ne 11, 3) := by decide +kernel
theorem dX6_after_79 : decode cX6_after 79 = .ok (.aload_n 0, 1) := by decide +kernel
theorem dX6_after_80 : decode cX6_after 80 = .ok (.getfield 30, 3) := by decide +kernel
theorem dX6_after_83 : decode cX6_after 83 = .ok (.invokevirtual 122, 3) := by decide +kernel
theorem dX6_after_86 : decode cX6_after 86 = .ok (.ireturn, 1) := by decide +kernel
theorem dX6_after_87 : decode cX6_after 87 = .ok (.iload_n 1, 1) := by decide +kernel
theorem dX6_after_88 : decode cX6_after 88 = .ok (.iconst 1, 1) := by decide +kernel
theorem dX6_after_89 : decode cX6_after 89 = .ok (.if_icmp .ne 13, 3) := by decide +kernel
theorem dX6_after_92 : decode cX6_after 92 = .ok (.aload_n 0, 1) := by decide +kernel
theorem dX6_after_93 : decode cX6_after 93 = .ok (.getfield 30, 3) := by decide +kernel
theorem dX6_after_96 : decode cX6_after 96 = .ok (.getfield 119, 3) := by decide +kernel
theorem dX6_after_99 : decode cX6_after 99 = .ok (.goto 13, 3) := by decide +kernel
theorem dX6_after_102 : decode cX6_after 102 = .ok (.aload_n 0, 1) := by decide +kernel
theorem dX6_after_103 : decode cX6_after 103 = .ok (.getfield 30, 3) := by decide +kernel
theorem dX6_after_106 : decode cX6_after 106 = .ok (.getfield 62, 3) := by decide +kernel
theorem dX6_after_109 : decode cX6_after 109 = .ok (.getfield 72, 3) := by decide +kernel
theorem dX6_after_112 : decode cX6_after 112 = .ok (.ireturn, 1) := by decide +kernel
set_option maxRecDepth 20000 in
theorem ggX6_book_X1_empty : GoodIn wsX6_book wsX1_empty := goodIn_r _ [6, 7, 37, 38] (by decide +kernel) (by decide +kernel)
set_option maxRecDepth 20000 in
theorem gX6_book_X1_empty : GoodIn wsX6_book (wsV RX6 75 RX1 yX1_empty wsX1_empty) := goodIn_app (goodIn_of _ (by decide +kernel)) ggX6_book_X1_empty
set_option maxRecDepth 20000 in
theorem ggX6_book_X6_isRow : GoodIn wsX6_book wsX6_isRow := goodIn_r _ [11, 12, 13, 10, 14] (by decide +kernel) (by decide +kernel)
set_option maxRecDepth 20000 in
theorem gX6_book_X6_isRow : GoodIn wsX6_book (va_wsS RX6 125 yX6_isRow wsX6_isRow) := goodIn_app (goodIn_of _ (by decide +kernel)) ggX6_book_X6_isRow
set_option maxRecDepth 20000 in
theorem ggX6_book_X6_isWithin : GoodIn wsX6_book wsX6_isWithin := goodIn_r _ [14] (by decide +kernel) (by decide +kernel)
set_option maxRecDepth 20000 in
theorem gX6_book_X6_isWithin : GoodIn wsX6_book (va_wsS RX6 58 yX6_isWithin wsX6_isWithin) := goodIn_app (goodIn_of _ (by decide +kernel)) ggX6_book_X6_isWithin
set_option maxRecDepth 20000 in
theorem ggX6_book_X1_add : GoodIn wsX6_book wsX1_add := goodIn_r _ [18, 7, 19, 37, 38] (by decide +kernel) (by decide +kernel)
set_option maxRecDepth 20000 in
theorem gX6_book_X1_add : GoodIn wsX6_book (wsV RX6 66 RX1 yX1_add wsX1_add) := goodIn_app (goodIn_of _ (by decide +kernel)) ggX6_book_X1_add
theorem dX6_book_0 : decode cX6_book 0 = .ok (.iload_n 1, 1) := by decide +kernel
theorem dX6_book_1 : decode cX6_book 1 = .ok (.iconst (-1), 1) := by decide +kernel
theorem dX6_book_2 : decode cX6_book 2 = .ok (.if_icmp .ne 15, 3) := by decide +kernel
theorem dX6_book_5 : decode cX6_book 5 = .ok (.aload_n 0, 1) := by decide +kernel
theorem dX6_book_6 : decode cX6_book 6 = .ok (.getfield 23, 3) := by decide +kernel
theorem dX6_book_9 : decode cX6_book 9 = .ok (.getfield 235, 3) := by decide +kernel
theorem dX6_book_12 : decode cX6_book 12 = .ok (.invokevirtual 75, 3) := by decide +kernel
theorem dX6_book_15 : decode cX6_book 15 = .ok (.iconst 0, 1) := by decide +kernel
theorem dX6_book_16 : decode cX6_book 16 = .ok (.ireturn, 1) := by decide +kernel
theorem dX6_book_17 : decode cX6_book 17 = .ok (.iload_n 1, 1) := by decide +kernel
theorem dX6_book_18 : decode cX6_book 18 = .ok (.invokestatic 125, 3) := by decide +kernel
theorem dX6_book_21 : decode cX6_book 21 = .ok (.ifCond .ne 5, 3) := by decide +kernel
theorem dX6_book_24 : decode cX6_book 24 = .ok (.iconst (-1), 1) := by decide +kernel
theorem dX6_book_25 : decode cX6_book 25 = .ok (.ireturn, 1) := by decide +kernel
theorem dX6_book_26 : decode cX6_book 26 = .ok (.iload_n 2, 1) := by decide +kernel
theorem dX6_book_27 : decode cX6_book 27 = .ok (.iconst 0, 1) := by decide +kernel
theorem dX6_book_28 : decode cX6_book 28 = .ok (.sipush 2400, 3) := by decide +kernel
theorem dX6_book_31 : decode cX6_book 31 = .ok (.invokestatic 58, 3) := by decide +kernel
theorem dX6_book_34 : decode cX6_book 34 = .ok (.ifCond .eq 19, 3) := by decide +kernel
theorem dX6_book_37 : decode cX6_book 37 = .ok (.aload_n 0, 1) := by decide +kernel
theorem dX6_book_38 : decode cX6_book 38 = .ok (.getfield 23, 3) := by decide +kernel
theorem dX6_book_41 : decode cX6_book 41 = .ok (.getfield 235, 3) := by decide +kernel
theorem dX6_book_44 : decode cX6_book 44 = .ok (.iload_n 1, 1) := by decide +kernel
theorem dX6_book_45 : decode cX6_book 45 = .ok (.iload_n 2, 1) := by decide +kernel
theorem dX6_book_46 : decode cX6_book 46 = .ok (.iconst 0, 1) := by decide +kernel
theorem dX6_book_47 : decode cX6_book 47 = .ok (.invokevirtual 66, 3) := by decide +kernel
theorem dX6_book_50 : decode cX6_book 50 = .ok (.goto 5, 3) := by decide +kernel
theorem dX6_book_53 : decode cX6_book 53 = .ok (.bipush (-2), 2) := by decide +kernel
theorem dX6_book_55 : decode cX6_book 55 = .ok (.ireturn, 1) := by decide +kernel
set_option maxRecDepth 20000 in
theorem ggX6_looked_X1_number : GoodIn wsX6_looked wsX1_number := goodIn_r _ [6, 7, 8, 9, 10, 11, 46, 47] (by decide +kernel) (by decide +kernel)
set_option maxRecDepth 20000 in
theorem gX6_looked_X1_number : GoodIn wsX6_looked (wsV RX6 97 RX1 yX1_number wsX1_number) := goodIn_app (goodIn_of _ (by decide +kernel)) ggX6_looked_X1_number
set_option maxRecDepth 20000 in
theorem ggX6_looked_X3_remainder : GoodIn wsX6_looked wsX3_remainder := goodIn_r _ [16, 17, 18, 19, 20, 21, 22, 23, 24, 25, 26, 27, 28, 36, 37, 38, 39, 40, 41, 42, 43, 44, 45, 48] (by decide +kernel) (by decide +kernel)
set_option maxRecDepth 20000 in
theorem gX6_looked_X3_remainder : GoodIn wsX6_looked (wsV RX6 129 RX3 yX3_remainder wsX3_remainder) := goodIn_app (goodIn_of _ (by decide +kernel)) ggX6_looked_X3_remainder
theorem dX6_looked_0 : decode cX6_looked 0 = .ok (.iconst 0, 1) := by decide +kernel
theorem dX6_looked_1 : decode cX6_looked 1 = .ok (.istore_n 1, 1) := by decide +kernel
theorem dX6_looked_2 : decode cX6_looked 2 = .ok (.iload_n 1, 1) := by decide +kernel
theorem dX6_looked_3 : decode cX6_looked 3 = .ok (.aload_n 0, 1) := by decide +kernel
theorem dX6_looked_4 : decode cX6_looked 4 = .ok (.getfield 23, 3) := by decide +kernel
theorem dX6_looked_7 : decode cX6_looked 7 = .ok (.getfield 235, 3) := by decide +kernel
theorem dX6_looked_10 : decode cX6_looked 10 = .ok (.getfield 72, 3) := by decide +kernel
theorem dX6_looked_13 : decode cX6_looked 13 = .ok (.if_icmp .ge 47, 3) := by decide +kernel
theorem dX6_looked_16 : decode cX6_looked 16 = .ok (.aload_n 0, 1) := by decide +kernel
theorem dX6_looked_17 : decode cX6_looked 17 = .ok (.getfield 23, 3) := by decide +kernel
theorem dX6_looked_20 : decode cX6_looked 20 = .ok (.aload_n 0, 1) := by decide +kernel
theorem dX6_looked_21 : decode cX6_looked 21 = .ok (.getfield 23, 3) := by decide +kernel
theorem dX6_looked_24 : decode cX6_looked 24 = .ok (.getfield 235, 3) := by decide +kernel
theorem dX6_looked_27 : decode cX6_looked 27 = .ok (.iload_n 1, 1) := by decide +kernel
theorem dX6_looked_28 : decode cX6_looked 28 = .ok (.iconst 0, 1) := by decide +kernel
theorem dX6_looked_29 : decode cX6_looked 29 = .ok (.invokevirtual 97, 3) := by decide +kernel
theorem dX6_looked_32 : decode cX6_looked 32 = .ok (.bipush 10, 2) := by decide +kernel
theorem dX6_looked_34 : decode cX6_looked 34 = .ok (.invokevirtual 129, 3) := by decide +kernel
theorem dX6_looked_37 : decode cX6_looked 37 = .ok (.aload_n 0, 1) := by decide +kernel
theorem dX6_looked_38 : decode cX6_looked 38 = .ok (.getfield 23, 3) := by decide +kernel
theorem dX6_looked_41 : decode cX6_looked 41 = .ok (.getfield 235, 3) := by decide +kernel
theorem dX6_looked_44 : decode cX6_looked 44 = .ok (.iload_n 1, 1) := by decide +kernel
theorem dX6_looked_45 : decode cX6_looked 45 = .ok (.iconst 1, 1) := by decide +kernel
theorem dX6_looked_46 : decode cX6_looked 46 = .ok (.invokevirtual 97, 3) := by decide +kernel
theorem dX6_looked_49 : decode cX6_looked 49 = .ok (.if_icmp .eq 5, 3) := by decide +kernel
theorem dX6_looked_52 : decode cX6_looked 52 = .ok (.iload_n 1, 1) := by decide +kernel
theorem dX6_looked_53 : decode cX6_looked 53 = .ok (.ireturn, 1) := by decide +kernel
theorem dX6_looked_54 : decode cX6_looked 54 = .ok (.iinc 1 1, 3) := by decide +kernel
theorem dX6_looked_57 : decode cX6_looked 57 = .ok (.goto (-55), 3) := by decide +kernel
theorem dX6_looked_60 : decode cX6_looked 60 = .ok (.bipush (-5), 2) := by decide +kernel
theorem dX6_looked_62 : decode cX6_looked 62 = .ok (.ireturn, 1) := by decide +kernel
set_option maxRecDepth 20000 in
theorem ggX6_judge_X6_isRow : GoodIn wsX6_judge wsX6_isRow := goodIn_r _ [6, 7, 8, 5, 9] (by decide +kernel) (by decide +kernel)
set_option maxRecDepth 20000 in
theorem gX6_judge_X6_isRow : GoodIn wsX6_judge (va_wsS RX6 125 yX6_isRow wsX6_isRow) := goodIn_app (goodIn_of _ (by decide +kernel)) ggX6_judge_X6_isRow
set_option maxRecDepth 20000 in
theorem ggX6_judge_X4_isThere : GoodIn wsX6_judge wsX4_isThere := goodIn_r _ [13, 8, 5, 9] (by decide +kernel) (by decide +kernel)
set_option maxRecDepth 20000 in
theorem gX6_judge_X4_isThere : GoodIn wsX6_judge (va_wsS RX6 238 yX4_isThere wsX4_isThere) := goodIn_app (goodIn_of _ (by decide +kernel)) ggX6_judge_X4_isThere
set_option maxRecDepth 20000 in
theorem ggX6_judge_X4_sortOf : GoodIn wsX6_judge wsX4_sortOf := goodIn_r _ [17, 18, 58, 59, 60] (by decide +kernel) (by decide +kernel)
set_option maxRecDepth 20000 in
theorem gX6_judge_X4_sortOf : GoodIn wsX6_judge (wsV RX6 241 RX4 yX4_sortOf wsX4_sortOf) := goodIn_app (goodIn_of _ (by decide +kernel)) ggX6_judge_X4_sortOf
set_option maxRecDepth 20000 in
theorem ggX6_judge_X4_lengthOf : GoodIn wsX6_judge wsX4_lengthOf := goodIn_r _ [22, 23, 58, 59, 60] (by decide +kernel) (by decide +kernel)
set_option maxRecDepth 20000 in
theorem gX6_judge_X4_lengthOf : GoodIn wsX6_judge (wsV RX6 244 RX4 yX4_lengthOf wsX4_lengthOf) := goodIn_app (goodIn_of _ (by decide +kernel)) ggX6_judge_X4_lengthOf
set_option maxRecDepth 20000 in
theorem ggX6_judge_X4_value : GoodIn wsX6_judge wsX4_value := goodIn_r _ [27, 28, 29, 30, 31, 12, 32, 33, 20, 21, 22, 23, 58, 59, 60] (by decide +kernel) (by decide +kernel)
set_option maxRecDepth 20000 in
theorem gX6_judge_X4_value : GoodIn wsX6_judge (wsV RX6 247 RX4 yX4_value wsX4_value) := goodIn_app (goodIn_of _ (by decide +kernel)) ggX6_judge_X4_value
set_option maxRecDepth 20000 in
theorem ggX6_judge_X3_remainder : GoodIn wsX6_judge wsX3_remainder := goodIn_r _ [38, 39, 40, 41, 42, 43, 44, 45, 46, 47, 48, 49, 50, 61, 62, 63, 64, 65, 66, 67, 68, 69, 70, 71] (by decide +kernel) (by decide +kernel)
set_option maxRecDepth 20000 in
theorem gX6_judge_X3_remainder : GoodIn wsX6_judge (wsV RX6 129 RX3 yX3_remainder wsX3_remainder) := goodIn_app (goodIn_of _ (by decide +kernel)) ggX6_judge_X3_remainder
theorem dX6_judge_0 : decode cX6_judge 0 = .ok (.iload_n 1, 1) := by decide +kernel
theorem dX6_judge_1 : decode cX6_judge 1 = .ok (.invokestatic 125, 3) := by decide +kernel
theorem dX6_judge_4 : decode cX6_judge 4 = .ok (.ifCond .eq 10, 3) := by decide +kernel
theorem dX6_judge_7 : decode cX6_judge 7 = .ok (.iload_n 2, 1) := by decide +kernel
theorem dX6_judge_8 : decode cX6_judge 8 = .ok (.invokestatic 238, 3) := by decide +kernel
theorem dX6_judge_11 : decode cX6_judge 11 = .ok (.ifCond .ne 5, 3) := by decide +kernel
theorem dX6_judge_14 : decode cX6_judge 14 = .ok (.iconst (-1), 1) := by decide +kernel
theorem dX6_judge_15 : decode cX6_judge 15 = .ok (.ireturn, 1) := by decide +kernel
theorem dX6_judge_16 : decode cX6_judge 16 = .ok (.aload_n 0, 1) := by decide +kernel
theorem dX6_judge_17 : decode cX6_judge 17 = .ok (.getfield 43, 3) := by decide +kernel
theorem dX6_judge_20 : decode cX6_judge 20 = .ok (.iload_n 2, 1) := by decide +kernel
theorem dX6_judge_21 : decode cX6_judge 21 = .ok (.invokevirtual 241, 3) := by decide +kernel
theorem dX6_judge_24 : decode cX6_judge 24 = .ok (.istore 4, 2) := by decide +kernel
theorem dX6_judge_26 : decode cX6_judge 26 = .ok (.iload 4, 2) := by decide +kernel
theorem dX6_judge_28 : decode cX6_judge 28 = .ok (.iconst (-1), 1) := by decide +kernel
theorem dX6_judge_29 : decode cX6_judge 29 = .ok (.if_icmp .ne 7, 3) := by decide +kernel
theorem dX6_judge_32 : decode cX6_judge 32 = .ok (.sipush 200, 3) := by decide +kernel
theorem dX6_judge_35 : decode cX6_judge 35 = .ok (.ireturn, 1) := by decide +kernel
theorem dX6_judge_36 : decode cX6_judge 36 = .ok (.iload 4, 2) := by decide +kernel
theorem dX6_judge_38 : decode cX6_judge 38 = .ok (.iconst 1, 1) := by decide +kernel
theorem dX6_judge_39 : decode cX6_judge 39 = .ok (.if_icmp .eq 6, 3) := by decide +kernel
theorem dX6_judge_42 : decode cX6_judge 42 = .ok (.bipush (-12), 2) := by decide +kernel
theorem dX6_judge_44 : decode cX6_judge 44 = .ok (.ireturn, 1) := by decide +kernel
theorem dX6_judge_45 : decode cX6_judge 45 = .ok (.iload_n 3, 1) := by decide +kernel
theorem dX6_judge_46 : decode cX6_judge 46 = .ok (.ifCond .ge 7, 3) := by decide +kernel
theorem dX6_judge_49 : decode cX6_judge 49 = .ok (.sipush 200, 3) := by decide +kernel
theorem dX6_judge_52 : decode cX6_judge 52 = .ok (.ireturn, 1) := by decide +kernel
theorem dX6_judge_53 : decode cX6_judge 53 = .ok (.aload_n 0, 1) := by decide +kernel
theorem dX6_judge_54 : decode cX6_judge 54 = .ok (.getfield 43, 3) := by decide +kernel
theorem dX6_judge_57 : decode cX6_judge 57 = .ok (.iload_n 2, 1) := by decide +kernel
theorem dX6_judge_58 : decode cX6_judge 58 = .ok (.invokevirtual 244, 3) := by decide +kernel
theorem dX6_judge_61 : decode cX6_judge 61 = .ok (.iload_n 3, 1) := by decide +kernel
theorem dX6_judge_62 : decode cX6_judge 62 = .ok (.isub, 1) := by decide +kernel
theorem dX6_judge_63 : decode cX6_judge 63 = .ok (.istore 5, 2) := by decide +kernel
theorem dX6_judge_65 : decode cX6_judge 65 = .ok (.iconst 0, 1) := by decide +kernel
theorem dX6_judge_66 : decode cX6_judge 66 = .ok (.istore 6, 2) := by decide +kernel
theorem dX6_judge_68 : decode cX6_judge 68 = .ok (.iload 6, 2) := by decide +kernel
theorem dX6_judge_70 : decode cX6_judge 70 = .ok (.iload_n 1, 1) := by decide +kernel
theorem dX6_judge_71 : decode cX6_judge 71 = .ok (.if_icmp .gt 53, 3) := by decide +kernel
theorem dX6_judge_74 : decode cX6_judge 74 = .ok (.iload 6, 2) := by decide +kernel
theorem dX6_judge_76 : decode cX6_judge 76 = .ok (.iload 5, 2) := by decide +kernel
theorem dX6_judge_78 : decode cX6_judge 78 = .ok (.if_icmp .lt 10, 3) := by decide +kernel
theorem dX6_judge_81 : decode cX6_judge 81 = .ok (.sipush 200, 3) := by decide +kernel
theorem dX6_judge_84 : decode cX6_judge 84 = .ok (.iload 6, 2) := by decide +kernel
theorem dX6_judge_86 : decode cX6_judge 86 = .ok (.iadd, 1) := by decide +kernel
theorem dX6_judge_87 : decode cX6_judge 87 = .ok (.ireturn, 1) := by decide +kernel
theorem dX6_judge_88 : decode cX6_judge 88 = .ok (.aload_n 0, 1) := by decide +kernel
theorem dX6_judge_89 : decode cX6_judge 89 = .ok (.getfield 43, 3) := by decide +kernel
theorem dX6_judge_92 : decode cX6_judge 92 = .ok (.iload_n 2, 1) := by decide +kernel
theorem dX6_judge_93 : decode cX6_judge 93 = .ok (.iload_n 3, 1) := by decide +kernel
theorem dX6_judge_94 : decode cX6_judge 94 = .ok (.iload 6, 2) := by decide +kernel
theorem dX6_judge_96 : decode cX6_judge 96 = .ok (.iadd, 1) := by decide +kernel
theorem dX6_judge_97 : decode cX6_judge 97 = .ok (.invokevirtual 247, 3) := by decide +kernel
theorem dX6_judge_100 : decode cX6_judge 100 = .ok (.aload_n 0, 1) := by decide +kernel
theorem dX6_judge_101 : decode cX6_judge 101 = .ok (.getfield 23, 3) := by decide +kernel
theorem dX6_judge_104 : decode cX6_judge 104 = .ok (.iload_n 1, 1) := by decide +kernel
theorem dX6_judge_105 : decode cX6_judge 105 = .ok (.iload 6, 2) := by decide +kernel
theorem dX6_judge_107 : decode cX6_judge 107 = .ok (.invokevirtual 129, 3) := by decide +kernel
theorem dX6_judge_110 : decode cX6_judge 110 = .ok (.i2l, 1) := by decide +kernel
theorem dX6_judge_111 : decode cX6_judge 111 = .ok (.lcmp, 1) := by decide +kernel
theorem dX6_judge_112 : decode cX6_judge 112 = .ok (.ifCond .eq 6, 3) := by decide +kernel
theorem dX6_judge_115 : decode cX6_judge 115 = .ok (.iload 6, 2) := by decide +kernel
theorem dX6_judge_117 : decode cX6_judge 117 = .ok (.ireturn, 1) := by decide +kernel
theorem dX6_judge_118 : decode cX6_judge 118 = .ok (.iinc 6 1, 3) := by decide +kernel
theorem dX6_judge_121 : decode cX6_judge 121 = .ok (.goto (-53), 3) := by decide +kernel
theorem dX6_judge_124 : decode cX6_judge 124 = .ok (.bipush (-5), 2) := by decide +kernel
theorem dX6_judge_126 : decode cX6_judge 126 = .ok (.ireturn, 1) := by decide +kernel
set_option maxRecDepth 20000 in
theorem ggX6_image_X3_copyFrom : GoodIn wsX6_image wsX3_copyFrom := goodIn_r _ [8, 9, 10, 11, 12, 13, 14, 15, 16, 17, 18, 19, 7, 20, 21, 22, 23, 24, 25, 26, 27, 28, 29, 30, 31, 32, 33, 34, 35, 36, 44, 45, 46, 47, 48, 49, 50, 51, 52, 53, 54, 55] (by decide +kernel) (by decide +kernel)
set_option maxRecDepth 20000 in
theorem gX6_image_X3_copyFrom : GoodIn wsX6_image (wsV RX6 228 RX3 yX3_copyFrom wsX3_copyFrom) := goodIn_app (goodIn_of _ (by decide +kernel)) ggX6_image_X3_copyFrom
theorem dX6_image_0 : decode cX6_image 0 = .ok (.aload_n 0, 1) := by decide +kernel
theorem dX6_image_1 : decode cX6_image 1 = .ok (.getfield 27, 3) := by decide +kernel
theorem dX6_image_4 : decode cX6_image 4 = .ok (.aload_n 0, 1) := by decide +kernel
theorem dX6_image_5 : decode cX6_image 5 = .ok (.getfield 23, 3) := by decide +kernel
theorem dX6_image_8 : decode cX6_image 8 = .ok (.invokevirtual 228, 3) := by decide +kernel
theorem dX6_image_11 : decode cX6_image 11 = .ok (.aload_n 0, 1) := by decide +kernel
theorem dX6_image_12 : decode cX6_image 12 = .ok (.iconst 1, 1) := by decide +kernel
theorem dX6_image_13 : decode cX6_image 13 = .ok (.putfield 251, 3) := by decide +kernel
theorem dX6_image_16 : decode cX6_image 16 = .ok (.aload_n 0, 1) := by decide +kernel
theorem dX6_image_17 : decode cX6_image 17 = .ok (.getfield 23, 3) := by decide +kernel
theorem dX6_image_20 : decode cX6_image 20 = .ok (.getfield 119, 3) := by decide +kernel
theorem dX6_image_23 : decode cX6_image 23 = .ok (.ireturn, 1) := by decide +kernel
set_option maxRecDepth 20000 in
theorem ggX6_undo_X3_copyFrom : GoodIn wsX6_undo wsX3_copyFrom := goodIn_r _ [8, 9, 10, 11, 12, 13, 14, 15, 16, 17, 18, 19, 7, 20, 21, 22, 23, 24, 25, 26, 27, 28, 29, 30, 31, 32, 33, 34, 35, 36, 44, 45, 46, 47, 48, 49, 50, 51, 52, 53, 54, 55] (by decide +kernel) (by decide +kernel)
set_option maxRecDepth 20000 in
theorem gX6_undo_X3_copyFrom : GoodIn wsX6_undo (wsV RX6 228 RX3 yX3_copyFrom wsX3_copyFrom) := goodIn_app (goodIn_of _ (by decide +kernel)) ggX6_undo_X3_copyFrom
theorem dX6_undo_0 : decode cX6_undo 0 = .ok (.aload_n 0, 1) := by decide +kernel
theorem dX6_undo_1 : decode cX6_undo 1 = .ok (.getfield 251, 3) := by decide +kernel
theorem dX6_undo_4 : decode cX6_undo 4 = .ok (.ifCond .ne 6, 3) := by decide +kernel
theorem dX6_undo_7 : decode cX6_undo 7 = .ok (.bipush (-3), 2) := by decide +kernel
theorem dX6_undo_9 : decode cX6_undo 9 = .ok (.ireturn, 1) := by decide +kernel
theorem dX6_undo_10 : decode cX6_undo 10 = .ok (.aload_n 0, 1) := by decide +kernel
theorem dX6_undo_11 : decode cX6_undo 11 = .ok (.getfield 23, 3) := by decide +kernel
theorem dX6_undo_14 : decode cX6_undo 14 = .ok (.aload_n 0, 1) := by decide +kernel
theorem dX6_undo_15 : decode cX6_undo 15 = .ok (.getfield 27, 3) := by decide +kernel
theorem dX6_undo_18 : decode cX6_undo 18 = .ok (.invokevirtual 228, 3) := by decide +kernel
theorem dX6_undo_21 : decode cX6_undo 21 = .ok (.aload_n 0, 1) := by decide +kernel
theorem dX6_undo_22 : decode cX6_undo 22 = .ok (.getfield 23, 3) := by decide +kernel
theorem dX6_undo_25 : decode cX6_undo 25 = .ok (.getfield 119, 3) := by decide +kernel
theorem dX6_undo_28 : decode cX6_undo 28 = .ok (.ireturn, 1) := by decide +kernel
theorem dX6_count_0 : decode cX6_count 0 = .ok (.iload_n 1, 1) := by decide +kernel
theorem dX6_count_1 : decode cX6_count 1 = .ok (.tableswitch 72 0 3 #[31, 42, 53, 64], 31) := by decide +kernel
theorem dX6_count_32 : decode cX6_count 32 = .ok (.aload_n 0, 1) := by decide +kernel
theorem dX6_count_33 : decode cX6_count 33 = .ok (.getfield 23, 3) := by decide +kernel
theorem dX6_count_36 : decode cX6_count 36 = .ok (.getfield 198, 3) := by decide +kernel
theorem dX6_count_39 : decode cX6_count 39 = .ok (.getfield 72, 3) := by decide +kernel
theorem dX6_count_42 : decode cX6_count 42 = .ok (.ireturn, 1) := by decide +kernel
theorem dX6_count_43 : decode cX6_count 43 = .ok (.aload_n 0, 1) := by decide +kernel
theorem dX6_count_44 : decode cX6_count 44 = .ok (.getfield 23, 3) := by decide +kernel
theorem dX6_count_47 : decode cX6_count 47 = .ok (.getfield 221, 3) := by decide +kernel
theorem dX6_count_50 : decode cX6_count 50 = .ok (.getfield 72, 3) := by decide +kernel
theorem dX6_count_53 : decode cX6_count 53 = .ok (.ireturn, 1) := by decide +kernel
theorem dX6_count_54 : decode cX6_count 54 = .ok (.aload_n 0, 1) := by decide +kernel
theorem dX6_count_55 : decode cX6_count 55 = .ok (.getfield 23, 3) := by decide +kernel
theorem dX6_count_58 : decode cX6_count 58 = .ok (.getfield 235, 3) := by decide +kernel
theorem dX6_count_61 : decode cX6_count 61 = .ok (.getfield 72, 3) := by decide +kernel
theorem dX6_count_64 : decode cX6_count 64 = .ok (.ireturn, 1) := by decide +kernel
theorem dX6_count_65 : decode cX6_count 65 = .ok (.aload_n 0, 1) := by decide +kernel
theorem dX6_count_66 : decode cX6_count 66 = .ok (.getfield 36, 3) := by decide +kernel
theorem dX6_count_69 : decode cX6_count 69 = .ok (.getfield 255, 3) := by decide +kernel
theorem dX6_count_72 : decode cX6_count 72 = .ok (.ireturn, 1) := by decide +kernel
theorem dX6_count_73 : decode cX6_count 73 = .ok (.bipush (-2), 2) := by decide +kernel
theorem dX6_count_75 : decode cX6_count 75 = .ok (.ireturn, 1) := by decide +kernel
set_option maxRecDepth 20000 in
theorem ggX6_tape_X4_isThere : GoodIn wsX6_tape wsX4_isThere := goodIn_r _ [5, 6, 7, 8] (by decide +kernel) (by decide +kernel)
set_option maxRecDepth 20000 in
theorem gX6_tape_X4_isThere : GoodIn wsX6_tape (va_wsS RX6 238 yX4_isThere wsX4_isThere) := goodIn_app (goodIn_of _ (by decide +kernel)) ggX6_tape_X4_isThere
set_option maxRecDepth 20000 in
theorem ggX6_tape_X4_become : GoodIn wsX6_tape wsX4_become := goodIn_r _ [12, 13, 14, 15, 16, 17, 18, 19, 20, 21, 22, 23, 24, 4, 25, 26, 27, 28, 29, 30, 31, 32, 33, 34, 35, 36, 37, 38, 39, 40, 41, 50, 51, 52] (by decide +kernel) (by decide +kernel)
set_option maxRecDepth 20000 in
theorem gX6_tape_X4_become : GoodIn wsX6_tape (wsV RX6 258 RX4 yX4_become wsX4_become) := goodIn_app (goodIn_of _ (by decide +kernel)) ggX6_tape_X4_become
set_option maxRecDepth 20000 in
theorem ggX6_tape_X6_isWithin : GoodIn wsX6_tape wsX6_isWithin := goodIn_r _ [8] (by decide +kernel) (by decide +kernel)
set_option maxRecDepth 20000 in
theorem gX6_tape_X6_isWithin : GoodIn wsX6_tape (va_wsS RX6 58 yX6_isWithin wsX6_isWithin) := goodIn_app (goodIn_of _ (by decide +kernel)) ggX6_tape_X6_isWithin
theorem dX6_tape_0 : decode cX6_tape 0 = .ok (.iload_n 1, 1) := by decide +kernel
theorem dX6_tape_1 : decode cX6_tape 1 = .ok (.invokestatic 238, 3) := by decide +kernel
theorem dX6_tape_4 : decode cX6_tape 4 = .ok (.ifCond .ne 5, 3) := by decide +kernel
theorem dX6_tape_7 : decode cX6_tape 7 = .ok (.iconst (-1), 1) := by decide +kernel
theorem dX6_tape_8 : decode cX6_tape 8 = .ok (.ireturn, 1) := by decide +kernel
theorem dX6_tape_9 : decode cX6_tape 9 = .ok (.iload_n 2, 1) := by decide +kernel
theorem dX6_tape_10 : decode cX6_tape 10 = .ok (.iconst (-1), 1) := by decide +kernel
theorem dX6_tape_11 : decode cX6_tape 11 = .ok (.if_icmp .ne 15, 3) := by decide +kernel
theorem dX6_tape_14 : decode cX6_tape 14 = .ok (.aload_n 0, 1) := by decide +kernel
theorem dX6_tape_15 : decode cX6_tape 15 = .ok (.getfield 43, 3) := by decide +kernel
theorem dX6_tape_18 : decode cX6_tape 18 = .ok (.iload_n 1, 1) := by decide +kernel
theorem dX6_tape_19 : decode cX6_tape 19 = .ok (.iload_n 2, 1) := by decide +kernel
theorem dX6_tape_20 : decode cX6_tape 20 = .ok (.iconst 0, 1) := by decide +kernel
theorem dX6_tape_21 : decode cX6_tape 21 = .ok (.invokevirtual 258, 3) := by decide +kernel
theorem dX6_tape_24 : decode cX6_tape 24 = .ok (.iconst 1, 1) := by decide +kernel
theorem dX6_tape_25 : decode cX6_tape 25 = .ok (.ireturn, 1) := by decide +kernel
theorem dX6_tape_26 : decode cX6_tape 26 = .ok (.iload_n 2, 1) := by decide +kernel
theorem dX6_tape_27 : decode cX6_tape 27 = .ok (.iconst 0, 1) := by decide +kernel
theorem dX6_tape_28 : decode cX6_tape 28 = .ok (.iconst 4, 1) := by decide +kernel
theorem dX6_tape_29 : decode cX6_tape 29 = .ok (.invokestatic 58, 3) := by decide +kernel
theorem dX6_tape_32 : decode cX6_tape 32 = .ok (.ifCond .eq 9, 3) := by decide +kernel
theorem dX6_tape_35 : decode cX6_tape 35 = .ok (.iload_n 3, 1) := by decide +kernel
theorem dX6_tape_36 : decode cX6_tape 36 = .ok (.bipush 60, 2) := by decide +kernel
theorem dX6_tape_38 : decode cX6_tape 38 = .ok (.if_icmp .le 6, 3) := by decide +kernel
theorem dX6_tape_41 : decode cX6_tape 41 = .ok (.bipush (-2), 2) := by decide +kernel
theorem dX6_tape_43 : decode cX6_tape 43 = .ok (.ireturn, 1) := by decide +kernel
theorem dX6_tape_44 : decode cX6_tape 44 = .ok (.iload_n 3, 1) := by decide +kernel
theorem dX6_tape_45 : decode cX6_tape 45 = .ok (.ifCond .ge 6, 3) := by decide +kernel
theorem dX6_tape_48 : decode cX6_tape 48 = .ok (.bipush (-14), 2) := by decide +kernel
theorem dX6_tape_50 : decode cX6_tape 50 = .ok (.ireturn, 1) := by decide +kernel
theorem dX6_tape_51 : decode cX6_tape 51 = .ok (.aload_n 0, 1) := by decide +kernel
theorem dX6_tape_52 : decode cX6_tape 52 = .ok (.getfield 43, 3) := by decide +kernel
theorem dX6_tape_55 : decode cX6_tape 55 = .ok (.iload_n 1, 1) := by decide +kernel
theorem dX6_tape_56 : decode cX6_tape 56 = .ok (.iload_n 2, 1) := by decide +kernel
theorem dX6_tape_57 : decode cX6_tape 57 = .ok (.iload_n 3, 1) := by decide +kernel
theorem dX6_tape_58 : decode cX6_tape 58 = .ok (.invokevirtual 258, 3) := by decide +kernel
theorem dX6_tape_61 : decode cX6_tape 61 = .ok (.iconst 1, 1) := by decide +kernel
theorem dX6_tape_62 : decode cX6_tape 62 = .ok (.ireturn, 1) := by decide +kernel
set_option maxRecDepth 20000 in
theorem ggX6_item_X4_isThere : GoodIn wsX6_item wsX4_isThere := goodIn_r _ [5, 6, 7, 8] (by decide +kernel) (by decide +kernel)
set_option maxRecDepth 20000 in
theorem gX6_item_X4_isThere : GoodIn wsX6_item (va_wsS RX6 238 yX4_isThere wsX4_isThere) := goodIn_app (goodIn_of _ (by decide +kernel)) ggX6_item_X4_isThere
set_option maxRecDepth 20000 in
theorem ggX6_item_X4_sortOf : GoodIn wsX6_item wsX4_sortOf := goodIn_r _ [12, 13, 41, 42, 43] (by decide +kernel) (by decide +kernel)
set_option maxRecDepth 20000 in
theorem gX6_item_X4_sortOf : GoodIn wsX6_item (wsV RX6 241 RX4 yX4_sortOf wsX4_sortOf) := goodIn_app (goodIn_of _ (by decide +kernel)) ggX6_item_X4_sortOf
set_option maxRecDepth 20000 in
theorem ggX6_item_X4_lengthOf : GoodIn wsX6_item wsX4_lengthOf := goodIn_r _ [17, 18, 41, 42, 43] (by decide +kernel) (by decide +kernel)
set_option maxRecDepth 20000 in
theorem gX6_item_X4_lengthOf : GoodIn wsX6_item (wsV RX6 244 RX4 yX4_lengthOf wsX4_lengthOf) := goodIn_app (goodIn_of _ (by decide +kernel)) ggX6_item_X4_lengthOf
set_option maxRecDepth 20000 in
theorem ggX6_item_X6_isWithin : GoodIn wsX6_item wsX6_isWithin := goodIn_r _ [8] (by decide +kernel) (by decide +kernel)
set_option maxRecDepth 20000 in
theorem gX6_item_X6_isWithin : GoodIn wsX6_item (va_wsS RX6 58 yX6_isWithin wsX6_isWithin) := goodIn_app (goodIn_of _ (by decide +kernel)) ggX6_item_X6_isWithin
set_option maxRecDepth 20000 in
theorem ggX6_item_X4_put : GoodIn wsX6_item wsX4_put := goodIn_r _ [23, 24, 25, 26, 27, 4, 28, 29, 15, 16, 17, 18, 30, 10, 11, 12, 13, 31, 32, 33, 41, 42, 43] (by decide +kernel) (by decide +kernel)
set_option maxRecDepth 20000 in
theorem gX6_item_X4_put : GoodIn wsX6_item (wsV RX6 261 RX4 yX4_put wsX4_put) := goodIn_app (goodIn_of _ (by decide +kernel)) ggX6_item_X4_put
theorem dX6_item_0 : decode cX6_item 0 = .ok (.iload_n 1, 1) := by decide +kernel
theorem dX6_item_1 : decode cX6_item 1 = .ok (.invokestatic 238, 3) := by decide +kernel
theorem dX6_item_4 : decode cX6_item 4 = .ok (.ifCond .ne 5, 3) := by decide +kernel
theorem dX6_item_7 : decode cX6_item 7 = .ok (.iconst (-1), 1) := by decide +kernel
theorem dX6_item_8 : decode cX6_item 8 = .ok (.ireturn, 1) := by decide +kernel
theorem dX6_item_9 : decode cX6_item 9 = .ok (.aload_n 0, 1) := by decide +kernel
theorem dX6_item_10 : decode cX6_item 10 = .ok (.getfield 43, 3) := by decide +kernel
theorem dX6_item_13 : decode cX6_item 13 = .ok (.iload_n 1, 1) := by decide +kernel
theorem dX6_item_14 : decode cX6_item 14 = .ok (.invokevirtual 241, 3) := by decide +kernel
theorem dX6_item_17 : decode cX6_item 17 = .ok (.iconst (-1), 1) := by decide +kernel
theorem dX6_item_18 : decode cX6_item 18 = .ok (.if_icmp .ne 6, 3) := by decide +kernel
theorem dX6_item_21 : decode cX6_item 21 = .ok (.bipush (-11), 2) := by decide +kernel
theorem dX6_item_23 : decode cX6_item 23 = .ok (.ireturn, 1) := by decide +kernel
theorem dX6_item_24 : decode cX6_item 24 = .ok (.iload_n 2, 1) := by decide +kernel
theorem dX6_item_25 : decode cX6_item 25 = .ok (.iconst 0, 1) := by decide +kernel
theorem dX6_item_26 : decode cX6_item 26 = .ok (.aload_n 0, 1) := by decide +kernel
theorem dX6_item_27 : decode cX6_item 27 = .ok (.getfield 43, 3) := by decide +kernel
theorem dX6_item_30 : decode cX6_item 30 = .ok (.iload_n 1, 1) := by decide +kernel
theorem dX6_item_31 : decode cX6_item 31 = .ok (.invokevirtual 244, 3) := by decide +kernel
theorem dX6_item_34 : decode cX6_item 34 = .ok (.iconst 1, 1) := by decide +kernel
theorem dX6_item_35 : decode cX6_item 35 = .ok (.isub, 1) := by decide +kernel
theorem dX6_item_36 : decode cX6_item 36 = .ok (.invokestatic 58, 3) := by decide +kernel
theorem dX6_item_39 : decode cX6_item 39 = .ok (.ifCond .ne 6, 3) := by decide +kernel
theorem dX6_item_42 : decode cX6_item 42 = .ok (.bipush (-13), 2) := by decide +kernel
theorem dX6_item_44 : decode cX6_item 44 = .ok (.ireturn, 1) := by decide +kernel
theorem dX6_item_45 : decode cX6_item 45 = .ok (.aload_n 0, 1) := by decide +kernel
theorem dX6_item_46 : decode cX6_item 46 = .ok (.getfield 43, 3) := by decide +kernel
theorem dX6_item_49 : decode cX6_item 49 = .ok (.iload_n 1, 1) := by decide +kernel
theorem dX6_item_50 : decode cX6_item 50 = .ok (.iload_n 2, 1) := by decide +kernel
theorem dX6_item_51 : decode cX6_item 51 = .ok (.lload_n 3, 1) := by decide +kernel
theorem dX6_item_52 : decode cX6_item 52 = .ok (.invokevirtual 261, 3) := by decide +kernel
theorem dX6_item_55 : decode cX6_item 55 = .ok (.iconst 1, 1) := by decide +kernel
theorem dX6_item_56 : decode cX6_item 56 = .ok (.ireturn, 1) := by decide +kernel
set_option maxRecDepth 20000 in
theorem ggX6_peek_X4_isThere : GoodIn wsX6_peek wsX4_isThere := goodIn_r _ [6, 7, 8, 9] (by decide +kernel) (by decide +kernel)
set_option maxRecDepth 20000 in
theorem gX6_peek_X4_isThere : GoodIn wsX6_peek (va_wsS RX6 238 yX4_isThere wsX4_isThere) := goodIn_app (goodIn_of _ (by decide +kernel)) ggX6_peek_X4_isThere
set_option maxRecDepth 20000 in
theorem ggX6_peek_X4_lengthOf : GoodIn wsX6_peek wsX4_lengthOf := goodIn_r _ [13, 14, 33, 34, 35] (by decide +kernel) (by decide +kernel)
set_option maxRecDepth 20000 in
theorem gX6_peek_X4_lengthOf : GoodIn wsX6_peek (wsV RX6 244 RX4 yX4_lengthOf wsX4_lengthOf) := goodIn_app (goodIn_of _ (by decide +kernel)) ggX6_peek_X4_lengthOf
set_option maxRecDepth 20000 in
theorem ggX6_peek_X6_isWithin : GoodIn wsX6_peek wsX6_isWithin := goodIn_r _ [9] (by decide +kernel) (by decide +kernel)
set_option maxRecDepth 20000 in
theorem gX6_peek_X6_isWithin : GoodIn wsX6_peek (va_wsS RX6 58 yX6_isWithin wsX6_isWithin) := goodIn_app (goodIn_of _ (by decide +kernel)) ggX6_peek_X6_isWithin
set_option maxRecDepth 20000 in
theorem ggX6_peek_X4_value : GoodIn wsX6_peek wsX4_value := goodIn_r _ [19, 20, 21, 22, 23, 5, 24, 25, 11, 12, 13, 14, 33, 34, 35] (by decide +kernel) (by decide +kernel)
set_option maxRecDepth 20000 in
theorem gX6_peek_X4_value : GoodIn wsX6_peek (wsV RX6 247 RX4 yX4_value wsX4_value) := goodIn_app (goodIn_of _ (by decide +kernel)) ggX6_peek_X4_value
theorem dX6_peek_0 : decode cX6_peek 0 = .ok (.iload_n 1, 1) := by decide +kernel
theorem dX6_peek_1 : decode cX6_peek 1 = .ok (.invokestatic 238, 3) := by decide +kernel
theorem dX6_peek_4 : decode cX6_peek 4 = .ok (.ifCond .eq 21, 3) := by decide +kernel
theorem dX6_peek_7 : decode cX6_peek 7 = .ok (.iload_n 2, 1) := by decide +kernel
theorem dX6_peek_8 : decode cX6_peek 8 = .ok (.iconst 0, 1) := by decide +kernel
theorem dX6_peek_9 : decode cX6_peek 9 = .ok (.aload_n 0, 1) := by decide +kernel
theorem dX6_peek_10 : decode cX6_peek 10 = .ok (.getfield 43, 3) := by decide +kernel
theorem dX6_peek_13 : decode cX6_peek 13 = .ok (.iload_n 1, 1) := by decide +kernel
theorem dX6_peek_14 : decode cX6_peek 14 = .ok (.invokevirtual 244, 3) := by decide +kernel
theorem dX6_peek_17 : decode cX6_peek 17 = .ok (.iconst 1, 1) := by decide +kernel
theorem dX6_peek_18 : decode cX6_peek 18 = .ok (.isub, 1) := by decide +kernel
theorem dX6_peek_19 : decode cX6_peek 19 = .ok (.invokestatic 58, 3) := by decide +kernel
theorem dX6_peek_22 : decode cX6_peek 22 = .ok (.ifCond .ne 7, 3) := by decide +kernel
theorem dX6_peek_25 : decode cX6_peek 25 = .ok (.ldc2_w 213, 3) := by decide +kernel
theorem dX6_peek_28 : decode cX6_peek 28 = .ok (.lreturn, 1) := by decide +kernel
theorem dX6_peek_29 : decode cX6_peek 29 = .ok (.aload_n 0, 1) := by decide +kernel
theorem dX6_peek_30 : decode cX6_peek 30 = .ok (.getfield 43, 3) := by decide +kernel
theorem dX6_peek_33 : decode cX6_peek 33 = .ok (.iload_n 1, 1) := by decide +kernel
theorem dX6_peek_34 : decode cX6_peek 34 = .ok (.iload_n 2, 1) := by decide +kernel
theorem dX6_peek_35 : decode cX6_peek 35 = .ok (.invokevirtual 247, 3) := by decide +kernel
theorem dX6_peek_38 : decode cX6_peek 38 = .ok (.lreturn, 1) := by decide +kernel
set_option maxRecDepth 20000 in
theorem ggX6_shift_X4_isThere : GoodIn wsX6_shift wsX4_isThere := goodIn_r _ [5, 6, 7, 8] (by decide +kernel) (by decide +kernel)
set_option maxRecDepth 20000 in
theorem gX6_shift_X4_isThere : GoodIn wsX6_shift (va_wsS RX6 238 yX4_isThere wsX4_isThere) := goodIn_app (goodIn_of _ (by decide +kernel)) ggX6_shift_X4_isThere
set_option maxRecDepth 20000 in
theorem ggX6_shift_X4_sortOf : GoodIn wsX6_shift wsX4_sortOf := goodIn_r _ [12, 13, 40, 41, 42] (by decide +kernel) (by decide +kernel)
set_option maxRecDepth 20000 in
theorem gX6_shift_X4_sortOf : GoodIn wsX6_shift (wsV RX6 241 RX4 yX4_sortOf wsX4_sortOf) := goodIn_app (goodIn_of _ (by decide +kernel)) ggX6_shift_X4_sortOf
set_option maxRecDepth 20000 in
theorem ggX6_shift_X4_hasRun : GoodIn wsX6_shift wsX4_hasRun := goodIn_r _ [17, 18, 19, 20, 4, 21, 22, 40, 41, 42] (by decide +kernel) (by decide +kernel)
set_option maxRecDepth 20000 in
theorem gX6_shift_X4_hasRun : GoodIn wsX6_shift (wsV RX6 265 RX4 yX4_hasRun wsX4_hasRun) := goodIn_app (goodIn_of _ (by decide +kernel)) ggX6_shift_X4_hasRun
set_option maxRecDepth 20000 in
theorem ggX6_shift_X4_move : GoodIn wsX6_shift wsX4_move := goodIn_r _ [26, 27, 28, 29, 30, 31, 32, 15, 16, 4, 17, 18, 19, 20, 21, 22, 40, 41, 42] (by decide +kernel) (by decide +kernel)
set_option maxRecDepth 20000 in
theorem gX6_shift_X4_move : GoodIn wsX6_shift (wsV RX6 268 RX4 yX4_move wsX4_move) := goodIn_app (goodIn_of _ (by decide +kernel)) ggX6_shift_X4_move
theorem dX6_shift_0 : decode cX6_shift 0 = .ok (.iload_n 1, 1) := by decide +kernel
theorem dX6_shift_1 : decode cX6_shift 1 = .ok (.invokestatic 238, 3) := by decide +kernel
theorem dX6_shift_4 : decode cX6_shift 4 = .ok (.ifCond .eq 10, 3) := by decide +kernel
theorem dX6_shift_7 : decode cX6_shift 7 = .ok (.iload_n 3, 1) := by decide +kernel
theorem dX6_shift_8 : decode cX6_shift 8 = .ok (.invokestatic 238, 3) := by decide +kernel
theorem dX6_shift_11 : decode cX6_shift 11 = .ok (.ifCond .ne 5, 3) := by decide +kernel
theorem dX6_shift_14 : decode cX6_shift 14 = .ok (.iconst (-1), 1) := by decide +kernel
theorem dX6_shift_15 : decode cX6_shift 15 = .ok (.ireturn, 1) := by decide +kernel
theorem dX6_shift_16 : decode cX6_shift 16 = .ok (.aload_n 0, 1) := by decide +kernel
theorem dX6_shift_17 : decode cX6_shift 17 = .ok (.getfield 43, 3) := by decide +kernel
theorem dX6_shift_20 : decode cX6_shift 20 = .ok (.iload_n 1, 1) := by decide +kernel
theorem dX6_shift_21 : decode cX6_shift 21 = .ok (.invokevirtual 241, 3) := by decide +kernel
theorem dX6_shift_24 : decode cX6_shift 24 = .ok (.iconst (-1), 1) := by decide +kernel
theorem dX6_shift_25 : decode cX6_shift 25 = .ok (.if_icmp .eq 15, 3) := by decide +kernel
theorem dX6_shift_28 : decode cX6_shift 28 = .ok (.aload_n 0, 1) := by decide +kernel
theorem dX6_shift_29 : decode cX6_shift 29 = .ok (.getfield 43, 3) := by decide +kernel
theorem dX6_shift_32 : decode cX6_shift 32 = .ok (.iload_n 3, 1) := by decide +kernel
theorem dX6_shift_33 : decode cX6_shift 33 = .ok (.invokevirtual 241, 3) := by decide +kernel
theorem dX6_shift_36 : decode cX6_shift 36 = .ok (.iconst (-1), 1) := by decide +kernel
theorem dX6_shift_37 : decode cX6_shift 37 = .ok (.if_icmp .ne 6, 3) := by decide +kernel
theorem dX6_shift_40 : decode cX6_shift 40 = .ok (.bipush (-11), 2) := by decide +kernel
theorem dX6_shift_42 : decode cX6_shift 42 = .ok (.ireturn, 1) := by decide +kernel
theorem dX6_shift_43 : decode cX6_shift 43 = .ok (.aload_n 0, 1) := by decide +kernel
theorem dX6_shift_44 : decode cX6_shift 44 = .ok (.getfield 43, 3) := by decide +kernel
theorem dX6_shift_47 : decode cX6_shift 47 = .ok (.iload_n 1, 1) := by decide +kernel
theorem dX6_shift_48 : decode cX6_shift 48 = .ok (.invokevirtual 241, 3) := by decide +kernel
theorem dX6_shift_51 : decode cX6_shift 51 = .ok (.aload_n 0, 1) := by decide +kernel
theorem dX6_shift_52 : decode cX6_shift 52 = .ok (.getfield 43, 3) := by decide +kernel
theorem dX6_shift_55 : decode cX6_shift 55 = .ok (.iload_n 3, 1) := by decide +kernel
theorem dX6_shift_56 : decode cX6_shift 56 = .ok (.invokevirtual 241, 3) := by decide +kernel
theorem dX6_shift_59 : decode cX6_shift 59 = .ok (.if_icmp .eq 6, 3) := by decide +kernel
theorem dX6_shift_62 : decode cX6_shift 62 = .ok (.bipush (-12), 2) := by decide +kernel
theorem dX6_shift_64 : decode cX6_shift 64 = .ok (.ireturn, 1) := by decide +kernel
theorem dX6_shift_65 : decode cX6_shift 65 = .ok (.aload_n 0, 1) := by decide +kernel
theorem dX6_shift_66 : decode cX6_shift 66 = .ok (.getfield 43, 3) := by decide +kernel
theorem dX6_shift_69 : decode cX6_shift 69 = .ok (.iload_n 1, 1) := by decide +kernel
theorem dX6_shift_70 : decode cX6_shift 70 = .ok (.iload_n 2, 1) := by decide +kernel
theorem dX6_shift_71 : decode cX6_shift 71 = .ok (.iload 5, 2) := by decide +kernel
theorem dX6_shift_73 : decode cX6_shift 73 = .ok (.invokevirtual 265, 3) := by decide +kernel
theorem dX6_shift_76 : decode cX6_shift 76 = .ok (.ifCond .eq 18, 3) := by decide +kernel
theorem dX6_shift_79 : decode cX6_shift 79 = .ok (.aload_n 0, 1) := by decide +kernel
theorem dX6_shift_80 : decode cX6_shift 80 = .ok (.getfield 43, 3) := by decide +kernel
theorem dX6_shift_83 : decode cX6_shift 83 = .ok (.iload_n 3, 1) := by decide +kernel
theorem dX6_shift_84 : decode cX6_shift 84 = .ok (.iload 4, 2) := by decide +kernel
theorem dX6_shift_86 : decode cX6_shift 86 = .ok (.iload 5, 2) := by decide +kernel
theorem dX6_shift_88 : decode cX6_shift 88 = .ok (.invokevirtual 265, 3) := by decide +kernel
theorem dX6_shift_91 : decode cX6_shift 91 = .ok (.ifCond .ne 6, 3) := by decide +kernel
theorem dX6_shift_94 : decode cX6_shift 94 = .ok (.bipush (-13), 2) := by decide +kernel
theorem dX6_shift_96 : decode cX6_shift 96 = .ok (.ireturn, 1) := by decide +kernel
theorem dX6_shift_97 : decode cX6_shift 97 = .ok (.aload_n 0, 1) := by decide +kernel
theorem dX6_shift_98 : decode cX6_shift 98 = .ok (.getfield 43, 3) := by decide +kernel
theorem dX6_shift_101 : decode cX6_shift 101 = .ok (.iload_n 1, 1) := by decide +kernel
theorem dX6_shift_102 : decode cX6_shift 102 = .ok (.iload_n 2, 1) := by decide +kernel
theorem dX6_shift_103 : decode cX6_shift 103 = .ok (.iload_n 3, 1) := by decide +kernel
theorem dX6_shift_104 : decode cX6_shift 104 = .ok (.iload 4, 2) := by decide +kernel
theorem dX6_shift_106 : decode cX6_shift 106 = .ok (.iload 5, 2) := by decide +kernel
theorem dX6_shift_108 : decode cX6_shift 108 = .ok (.invokevirtual 268, 3) := by decide +kernel
theorem dX6_shift_111 : decode cX6_shift 111 = .ok (.iload 5, 2) := by decide +kernel
theorem dX6_shift_113 : decode cX6_shift 113 = .ok (.ireturn, 1) := by decide +kernel
theorem dX6_isWithin_0 : decode cX6_isWithin 0 = .ok (.iload_n 0, 1) := by decide +kernel
theorem dX6_isWithin_1 : decode cX6_isWithin 1 = .ok (.iload_n 1, 1) := by decide +kernel
theorem dX6_isWithin_2 : decode cX6_isWithin 2 = .ok (.if_icmp .lt 12, 3) := by decide +kernel
theorem dX6_isWithin_5 : decode cX6_isWithin 5 = .ok (.iload_n 0, 1) := by decide +kernel
theorem dX6_isWithin_6 : decode cX6_isWithin 6 = .ok (.iload_n 2, 1) := by decide +kernel
theorem dX6_isWithin_7 : decode cX6_isWithin 7 = .ok (.if_icmp .gt 7, 3) := by decide +kernel
theorem dX6_isWithin_10 : decode cX6_isWithin 10 = .ok (.iconst 1, 1) := by decide +kernel
theorem dX6_isWithin_11 : decode cX6_isWithin 11 = .ok (.goto 4, 3) := by decide +kernel
theorem dX6_isWithin_14 : decode cX6_isWithin 14 = .ok (.iconst 0, 1) := by decide +kernel
theorem dX6_isWithin_15 : decode cX6_isWithin 15 = .ok (.ireturn, 1) := by decide +kernel
set_option maxRecDepth 20000 in
theorem ggX6_isRow_X6_isWithin : GoodIn wsX6_isRow wsX6_isWithin := goodIn_r _ [4] (by decide +kernel) (by decide +kernel)
set_option maxRecDepth 20000 in
theorem gX6_isRow_X6_isWithin : GoodIn wsX6_isRow (va_wsS RX6 58 yX6_isWithin wsX6_isWithin) := goodIn_app (goodIn_of _ (by decide +kernel)) ggX6_isRow_X6_isWithin
theorem dX6_isRow_0 : decode cX6_isRow 0 = .ok (.iload_n 0, 1) := by decide +kernel
theorem dX6_isRow_1 : decode cX6_isRow 1 = .ok (.iconst 0, 1) := by decide +kernel
theorem dX6_isRow_2 : decode cX6_isRow 2 = .ok (.bipush 127, 2) := by decide +kernel
theorem dX6_isRow_4 : decode cX6_isRow 4 = .ok (.invokestatic 58, 3) := by decide +kernel
theorem dX6_isRow_7 : decode cX6_isRow 7 = .ok (.ireturn, 1) := by decide +kernel
set_option maxRecDepth 20000 in
theorem ggX6_isPlace_X6_isRow : GoodIn wsX6_isPlace wsX6_isRow := goodIn_r _ [4, 5, 6, 3, 7] (by decide +kernel) (by decide +kernel)
set_option maxRecDepth 20000 in
theorem gX6_isPlace_X6_isRow : GoodIn wsX6_isPlace (va_wsS RX6 125 yX6_isRow wsX6_isRow) := goodIn_app (goodIn_of _ (by decide +kernel)) ggX6_isPlace_X6_isRow
set_option maxRecDepth 20000 in
theorem ggX6_isPlace_X6_isWithin : GoodIn wsX6_isPlace wsX6_isWithin := goodIn_r _ [7] (by decide +kernel) (by decide +kernel)
set_option maxRecDepth 20000 in
theorem gX6_isPlace_X6_isWithin : GoodIn wsX6_isPlace (va_wsS RX6 58 yX6_isWithin wsX6_isWithin) := goodIn_app (goodIn_of _ (by decide +kernel)) ggX6_isPlace_X6_isWithin
theorem dX6_isPlace_0 : decode cX6_isPlace 0 = .ok (.iload_n 0, 1) := by decide +kernel
theorem dX6_isPlace_1 : decode cX6_isPlace 1 = .ok (.invokestatic 125, 3) := by decide +kernel
theorem dX6_isPlace_4 : decode cX6_isPlace 4 = .ok (.ifCond .eq 16, 3) := by decide +kernel
theorem dX6_isPlace_7 : decode cX6_isPlace 7 = .ok (.iload_n 1, 1) := by decide +kernel
theorem dX6_isPlace_8 : decode cX6_isPlace 8 = .ok (.iconst 0, 1) := by decide +kernel
theorem dX6_isPlace_9 : decode cX6_isPlace 9 = .ok (.iload_n 0, 1) := by decide +kernel
theorem dX6_isPlace_10 : decode cX6_isPlace 10 = .ok (.invokestatic 58, 3) := by decide +kernel
theorem dX6_isPlace_13 : decode cX6_isPlace 13 = .ok (.ifCond .eq 7, 3) := by decide +kernel
theorem dX6_isPlace_16 : decode cX6_isPlace 16 = .ok (.iconst 1, 1) := by decide +kernel
theorem dX6_isPlace_17 : decode cX6_isPlace 17 = .ok (.goto 4, 3) := by decide +kernel
theorem dX6_isPlace_20 : decode cX6_isPlace 20 = .ok (.iconst 0, 1) := by decide +kernel
theorem dX6_isPlace_21 : decode cX6_isPlace 21 = .ok (.ireturn, 1) := by decide +kernel
