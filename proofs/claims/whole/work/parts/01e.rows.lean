theorem dX7_init_0 : decode cX7_init 0 = .ok (.aload_n 0, 1) := by decide +kernel
theorem dX7_init_1 : decode cX7_init 1 = .ok (.invokespecial 5, 3) := by decide +kernel
theorem dX7_init_4 : decode cX7_init 4 = .ok (.aload_n 0, 1) := by decide +kernel
theorem dX7_init_5 : decode cX7_init 5 = .ok (.bipush 64, 2) := by decide +kernel
theorem dX7_init_7 : decode cX7_init 7 = .ok (.newarray .int, 2) := by decide +kernel
theorem dX7_init_9 : decode cX7_init 9 = .ok (.putfield 11, 3) := by decide +kernel
theorem dX7_init_12 : decode cX7_init 12 = .ok (.aload_n 0, 1) := by decide +kernel
theorem dX7_init_13 : decode cX7_init 13 = .ok (.bipush 64, 2) := by decide +kernel
theorem dX7_init_15 : decode cX7_init 15 = .ok (.newarray .int, 2) := by decide +kernel
theorem dX7_init_17 : decode cX7_init 17 = .ok (.putfield 15, 3) := by decide +kernel
theorem dX7_init_20 : decode cX7_init 20 = .ok (.aload_n 0, 1) := by decide +kernel
theorem dX7_init_21 : decode cX7_init 21 = .ok (.bipush 64, 2) := by decide +kernel
theorem dX7_init_23 : decode cX7_init 23 = .ok (.newarray .int, 2) := by decide +kernel
theorem dX7_init_25 : decode cX7_init 25 = .ok (.putfield 18, 3) := by decide +kernel
theorem dX7_init_28 : decode cX7_init 28 = .ok (.aload_n 0, 1) := by decide +kernel
theorem dX7_init_29 : decode cX7_init 29 = .ok (.sipush 16384, 3) := by decide +kernel
theorem dX7_init_32 : decode cX7_init 32 = .ok (.newarray .int, 2) := by decide +kernel
theorem dX7_init_34 : decode cX7_init 34 = .ok (.putfield 21, 3) := by decide +kernel
theorem dX7_init_37 : decode cX7_init 37 = .ok (.aload_n 0, 1) := by decide +kernel
theorem dX7_init_38 : decode cX7_init 38 = .ok (.bipush 100, 2) := by decide +kernel
theorem dX7_init_40 : decode cX7_init 40 = .ok (.newarray .int, 2) := by decide +kernel
theorem dX7_init_42 : decode cX7_init 42 = .ok (.putfield 24, 3) := by decide +kernel
theorem dX7_init_45 : decode cX7_init 45 = .ok (.aload_n 0, 1) := by decide +kernel
theorem dX7_init_46 : decode cX7_init 46 = .ok (.bipush 6, 2) := by decide +kernel
theorem dX7_init_48 : decode cX7_init 48 = .ok (.newarray .int, 2) := by decide +kernel
theorem dX7_init_50 : decode cX7_init 50 = .ok (.putfield 27, 3) := by decide +kernel
theorem dX7_init_53 : decode cX7_init 53 = .ok (.aload_n 0, 1) := by decide +kernel
theorem dX7_init_54 : decode cX7_init 54 = .ok (.bipush 6, 2) := by decide +kernel
theorem dX7_init_56 : decode cX7_init 56 = .ok (.newarray .int, 2) := by decide +kernel
theorem dX7_init_58 : decode cX7_init 58 = .ok (.putfield 30, 3) := by decide +kernel
theorem dX7_init_61 : decode cX7_init 61 = .ok (.aload_n 0, 1) := by decide +kernel
theorem dX7_init_62 : decode cX7_init 62 = .ok (.sipush 360, 3) := by decide +kernel
theorem dX7_init_65 : decode cX7_init 65 = .ok (.newarray .long, 2) := by decide +kernel
theorem dX7_init_67 : decode cX7_init 67 = .ok (.putfield 33, 3) := by decide +kernel
theorem dX7_init_70 : decode cX7_init 70 = .ok (.aload_n 0, 1) := by decide +kernel
theorem dX7_init_71 : decode cX7_init 71 = .ok (.getfield 11, 3) := by decide +kernel
theorem dX7_init_74 : decode cX7_init 74 = .ok (.iconst 0, 1) := by decide +kernel
theorem dX7_init_75 : decode cX7_init 75 = .ok (.iconst 2, 1) := by decide +kernel
theorem dX7_init_76 : decode cX7_init 76 = .ok (.iastore, 1) := by decide +kernel
theorem dX7_init_77 : decode cX7_init 77 = .ok (.aload_n 0, 1) := by decide +kernel
theorem dX7_init_78 : decode cX7_init 78 = .ok (.getfield 11, 3) := by decide +kernel
theorem dX7_init_81 : decode cX7_init 81 = .ok (.iconst 1, 1) := by decide +kernel
theorem dX7_init_82 : decode cX7_init 82 = .ok (.iconst 1, 1) := by decide +kernel
theorem dX7_init_83 : decode cX7_init 83 = .ok (.iastore, 1) := by decide +kernel
theorem dX7_init_84 : decode cX7_init 84 = .ok (.iconst 0, 1) := by decide +kernel
theorem dX7_init_85 : decode cX7_init 85 = .ok (.istore_n 1, 1) := by decide +kernel
theorem dX7_init_86 : decode cX7_init 86 = .ok (.iload_n 1, 1) := by decide +kernel
theorem dX7_init_87 : decode cX7_init 87 = .ok (.bipush 6, 2) := by decide +kernel
theorem dX7_init_89 : decode cX7_init 89 = .ok (.if_icmp .ge 16, 3) := by decide +kernel
theorem dX7_init_92 : decode cX7_init 92 = .ok (.aload_n 0, 1) := by decide +kernel
theorem dX7_init_93 : decode cX7_init 93 = .ok (.getfield 27, 3) := by decide +kernel
theorem dX7_init_96 : decode cX7_init 96 = .ok (.iload_n 1, 1) := by decide +kernel
theorem dX7_init_97 : decode cX7_init 97 = .ok (.iconst (-1), 1) := by decide +kernel
theorem dX7_init_98 : decode cX7_init 98 = .ok (.iastore, 1) := by decide +kernel
theorem dX7_init_99 : decode cX7_init 99 = .ok (.iinc 1 1, 3) := by decide +kernel
theorem dX7_init_102 : decode cX7_init 102 = .ok (.goto (-16), 3) := by decide +kernel
theorem dX7_init_105 : decode cX7_init 105 = .ok (.return_, 1) := by decide +kernel
theorem dX7_isIn_0 : decode cX7_isIn 0 = .ok (.lload_n 0, 1) := by decide +kernel
theorem dX7_isIn_1 : decode cX7_isIn 1 = .ok (.lload_n 2, 1) := by decide +kernel
theorem dX7_isIn_2 : decode cX7_isIn 2 = .ok (.lcmp, 1) := by decide +kernel
theorem dX7_isIn_3 : decode cX7_isIn 3 = .ok (.ifCond .lt 14, 3) := by decide +kernel
theorem dX7_isIn_6 : decode cX7_isIn 6 = .ok (.lload_n 0, 1) := by decide +kernel
theorem dX7_isIn_7 : decode cX7_isIn 7 = .ok (.lload 4, 2) := by decide +kernel
theorem dX7_isIn_9 : decode cX7_isIn 9 = .ok (.lcmp, 1) := by decide +kernel
theorem dX7_isIn_10 : decode cX7_isIn 10 = .ok (.ifCond .gt 7, 3) := by decide +kernel
theorem dX7_isIn_13 : decode cX7_isIn 13 = .ok (.iconst 1, 1) := by decide +kernel
theorem dX7_isIn_14 : decode cX7_isIn 14 = .ok (.goto 4, 3) := by decide +kernel
theorem dX7_isIn_17 : decode cX7_isIn 17 = .ok (.iconst 0, 1) := by decide +kernel
theorem dX7_isIn_18 : decode cX7_isIn 18 = .ok (.ireturn, 1) := by decide +kernel
theorem dX7_copies_0 : decode cX7_copies 0 = .ok (.iconst 0, 1) := by decide +kernel
theorem dX7_copies_1 : decode cX7_copies 1 = .ok (.istore_n 2, 1) := by decide +kernel
theorem dX7_copies_2 : decode cX7_copies 2 = .ok (.iload_n 2, 1) := by decide +kernel
theorem dX7_copies_3 : decode cX7_copies 3 = .ok (.bipush 64, 2) := by decide +kernel
theorem dX7_copies_5 : decode cX7_copies 5 = .ok (.if_icmp .ge 15, 3) := by decide +kernel
theorem dX7_copies_8 : decode cX7_copies 8 = .ok (.aload_n 1, 1) := by decide +kernel
theorem dX7_copies_9 : decode cX7_copies 9 = .ok (.iload_n 2, 1) := by decide +kernel
theorem dX7_copies_10 : decode cX7_copies 10 = .ok (.aload_n 0, 1) := by decide +kernel
theorem dX7_copies_11 : decode cX7_copies 11 = .ok (.iload_n 2, 1) := by decide +kernel
theorem dX7_copies_12 : decode cX7_copies 12 = .ok (.iaload, 1) := by decide +kernel
theorem dX7_copies_13 : decode cX7_copies 13 = .ok (.iastore, 1) := by decide +kernel
theorem dX7_copies_14 : decode cX7_copies 14 = .ok (.iinc 2 1, 3) := by decide +kernel
theorem dX7_copies_17 : decode cX7_copies 17 = .ok (.goto (-15), 3) := by decide +kernel
theorem dX7_copies_20 : decode cX7_copies 20 = .ok (.return_, 1) := by decide +kernel
theorem dX7_isPrime_0 : decode cX7_isPrime 0 = .ok (.iload_n 0, 1) := by decide +kernel
theorem dX7_isPrime_1 : decode cX7_isPrime 1 = .ok (.iconst 2, 1) := by decide +kernel
theorem dX7_isPrime_2 : decode cX7_isPrime 2 = .ok (.if_icmp .eq 19, 3) := by decide +kernel
theorem dX7_isPrime_5 : decode cX7_isPrime 5 = .ok (.iload_n 0, 1) := by decide +kernel
theorem dX7_isPrime_6 : decode cX7_isPrime 6 = .ok (.iconst 3, 1) := by decide +kernel
theorem dX7_isPrime_7 : decode cX7_isPrime 7 = .ok (.if_icmp .eq 14, 3) := by decide +kernel
theorem dX7_isPrime_10 : decode cX7_isPrime 10 = .ok (.iload_n 0, 1) := by decide +kernel
theorem dX7_isPrime_11 : decode cX7_isPrime 11 = .ok (.iconst 5, 1) := by decide +kernel
theorem dX7_isPrime_12 : decode cX7_isPrime 12 = .ok (.if_icmp .eq 9, 3) := by decide +kernel
theorem dX7_isPrime_15 : decode cX7_isPrime 15 = .ok (.iload_n 0, 1) := by decide +kernel
theorem dX7_isPrime_16 : decode cX7_isPrime 16 = .ok (.bipush 7, 2) := by decide +kernel
theorem dX7_isPrime_18 : decode cX7_isPrime 18 = .ok (.if_icmp .ne 7, 3) := by decide +kernel
theorem dX7_isPrime_21 : decode cX7_isPrime 21 = .ok (.iconst 1, 1) := by decide +kernel
theorem dX7_isPrime_22 : decode cX7_isPrime 22 = .ok (.goto 4, 3) := by decide +kernel
theorem dX7_isPrime_25 : decode cX7_isPrime 25 = .ok (.iconst 0, 1) := by decide +kernel
theorem dX7_isPrime_26 : decode cX7_isPrime 26 = .ok (.ireturn, 1) := by decide +kernel
theorem dX7_power_0 : decode cX7_power 0 = .ok (.iconst 1, 1) := by decide +kernel
theorem dX7_power_1 : decode cX7_power 1 = .ok (.istore_n 2, 1) := by decide +kernel
theorem dX7_power_2 : decode cX7_power 2 = .ok (.iconst 0, 1) := by decide +kernel
theorem dX7_power_3 : decode cX7_power 3 = .ok (.istore_n 3, 1) := by decide +kernel
theorem dX7_power_4 : decode cX7_power 4 = .ok (.iload_n 3, 1) := by decide +kernel
theorem dX7_power_5 : decode cX7_power 5 = .ok (.iload_n 1, 1) := by decide +kernel
theorem dX7_power_6 : decode cX7_power 6 = .ok (.if_icmp .ge 13, 3) := by decide +kernel
theorem dX7_power_9 : decode cX7_power 9 = .ok (.iload_n 2, 1) := by decide +kernel
theorem dX7_power_10 : decode cX7_power 10 = .ok (.iload_n 0, 1) := by decide +kernel
theorem dX7_power_11 : decode cX7_power 11 = .ok (.imul, 1) := by decide +kernel
theorem dX7_power_12 : decode cX7_power 12 = .ok (.istore_n 2, 1) := by decide +kernel
theorem dX7_power_13 : decode cX7_power 13 = .ok (.iinc 3 1, 3) := by decide +kernel
theorem dX7_power_16 : decode cX7_power 16 = .ok (.goto (-12), 3) := by decide +kernel
theorem dX7_power_19 : decode cX7_power 19 = .ok (.iload_n 2, 1) := by decide +kernel
theorem dX7_power_20 : decode cX7_power 20 = .ok (.ireturn, 1) := by decide +kernel
set_option maxRecDepth 20000 in
theorem ggX7_modulus_X7_power : GoodIn wsX7_modulus wsX7_power := goodIn_r _ [5] (by decide +kernel) (by decide +kernel)
set_option maxRecDepth 20000 in
theorem gX7_modulus_X7_power : GoodIn wsX7_modulus (va_wsS RX7 37 yX7_power wsX7_power) := goodIn_app (goodIn_of _ (by decide +kernel)) ggX7_modulus_X7_power
theorem dX7_modulus_0 : decode cX7_modulus 0 = .ok (.aload_n 0, 1) := by decide +kernel
theorem dX7_modulus_1 : decode cX7_modulus 1 = .ok (.getfield 11, 3) := by decide +kernel
theorem dX7_modulus_4 : decode cX7_modulus 4 = .ok (.iconst 0, 1) := by decide +kernel
theorem dX7_modulus_5 : decode cX7_modulus 5 = .ok (.iaload, 1) := by decide +kernel
theorem dX7_modulus_6 : decode cX7_modulus 6 = .ok (.aload_n 0, 1) := by decide +kernel
theorem dX7_modulus_7 : decode cX7_modulus 7 = .ok (.getfield 11, 3) := by decide +kernel
theorem dX7_modulus_10 : decode cX7_modulus 10 = .ok (.iconst 1, 1) := by decide +kernel
theorem dX7_modulus_11 : decode cX7_modulus 11 = .ok (.iaload, 1) := by decide +kernel
theorem dX7_modulus_12 : decode cX7_modulus 12 = .ok (.invokestatic 37, 3) := by decide +kernel
theorem dX7_modulus_15 : decode cX7_modulus 15 = .ok (.ireturn, 1) := by decide +kernel
theorem dX7_takes_0 : decode cX7_takes 0 = .ok (.aload_n 0, 1) := by decide +kernel
theorem dX7_takes_1 : decode cX7_takes 1 = .ok (.getfield 41, 3) := by decide +kernel
theorem dX7_takes_4 : decode cX7_takes 4 = .ok (.iload_n 1, 1) := by decide +kernel
theorem dX7_takes_5 : decode cX7_takes 5 = .ok (.if_icmp .ne 4, 3) := by decide +kernel
theorem dX7_takes_8 : decode cX7_takes 8 = .ok (.return_, 1) := by decide +kernel
theorem dX7_takes_9 : decode cX7_takes 9 = .ok (.aload_n 0, 1) := by decide +kernel
theorem dX7_takes_10 : decode cX7_takes 10 = .ok (.iload_n 1, 1) := by decide +kernel
theorem dX7_takes_11 : decode cX7_takes 11 = .ok (.putfield 41, 3) := by decide +kernel
theorem dX7_takes_14 : decode cX7_takes 14 = .ok (.iconst 0, 1) := by decide +kernel
theorem dX7_takes_15 : decode cX7_takes 15 = .ok (.istore_n 2, 1) := by decide +kernel
theorem dX7_takes_16 : decode cX7_takes 16 = .ok (.iload_n 2, 1) := by decide +kernel
theorem dX7_takes_17 : decode cX7_takes 17 = .ok (.sipush 128, 3) := by decide +kernel
theorem dX7_takes_20 : decode cX7_takes 20 = .ok (.if_icmp .ge 82, 3) := by decide +kernel
theorem dX7_takes_23 : decode cX7_takes 23 = .ok (.iconst 0, 1) := by decide +kernel
theorem dX7_takes_24 : decode cX7_takes 24 = .ok (.istore_n 3, 1) := by decide +kernel
theorem dX7_takes_25 : decode cX7_takes 25 = .ok (.iload_n 3, 1) := by decide +kernel
theorem dX7_takes_26 : decode cX7_takes 26 = .ok (.iload_n 2, 1) := by decide +kernel
theorem dX7_takes_27 : decode cX7_takes 27 = .ok (.if_icmp .gt 69, 3) := by decide +kernel
theorem dX7_takes_30 : decode cX7_takes 30 = .ok (.aload_n 0, 1) := by decide +kernel
theorem dX7_takes_31 : decode cX7_takes 31 = .ok (.getfield 21, 3) := by decide +kernel
theorem dX7_takes_34 : decode cX7_takes 34 = .ok (.sipush 128, 3) := by decide +kernel
theorem dX7_takes_37 : decode cX7_takes 37 = .ok (.iload_n 2, 1) := by decide +kernel
theorem dX7_takes_38 : decode cX7_takes 38 = .ok (.imul, 1) := by decide +kernel
theorem dX7_takes_39 : decode cX7_takes 39 = .ok (.iload_n 3, 1) := by decide +kernel
theorem dX7_takes_40 : decode cX7_takes 40 = .ok (.iadd, 1) := by decide +kernel
theorem dX7_takes_41 : decode cX7_takes 41 = .ok (.iload_n 3, 1) := by decide +kernel
theorem dX7_takes_42 : decode cX7_takes 42 = .ok (.ifCond .eq 8, 3) := by decide +kernel
theorem dX7_takes_45 : decode cX7_takes 45 = .ok (.iload_n 3, 1) := by decide +kernel
theorem dX7_takes_46 : decode cX7_takes 46 = .ok (.iload_n 2, 1) := by decide +kernel
theorem dX7_takes_47 : decode cX7_takes 47 = .ok (.if_icmp .ne 9, 3) := by decide +kernel
theorem dX7_takes_50 : decode cX7_takes 50 = .ok (.iconst 1, 1) := by decide +kernel
theorem dX7_takes_51 : decode cX7_takes 51 = .ok (.iload_n 1, 1) := by decide +kernel
theorem dX7_takes_52 : decode cX7_takes 52 = .ok (.irem, 1) := by decide +kernel
theorem dX7_takes_53 : decode cX7_takes 53 = .ok (.goto 36, 3) := by decide +kernel
theorem dX7_takes_56 : decode cX7_takes 56 = .ok (.aload_n 0, 1) := by decide +kernel
theorem dX7_takes_57 : decode cX7_takes 57 = .ok (.getfield 21, 3) := by decide +kernel
theorem dX7_takes_60 : decode cX7_takes 60 = .ok (.sipush 128, 3) := by decide +kernel
theorem dX7_takes_63 : decode cX7_takes 63 = .ok (.iload_n 2, 1) := by decide +kernel
theorem dX7_takes_64 : decode cX7_takes 64 = .ok (.iconst 1, 1) := by decide +kernel
theorem dX7_takes_65 : decode cX7_takes 65 = .ok (.isub, 1) := by decide +kernel
theorem dX7_takes_66 : decode cX7_takes 66 = .ok (.imul, 1) := by decide +kernel
theorem dX7_takes_67 : decode cX7_takes 67 = .ok (.iload_n 3, 1) := by decide +kernel
theorem dX7_takes_68 : decode cX7_takes 68 = .ok (.iadd, 1) := by decide +kernel
theorem dX7_takes_69 : decode cX7_takes 69 = .ok (.iconst 1, 1) := by decide +kernel
theorem dX7_takes_70 : decode cX7_takes 70 = .ok (.isub, 1) := by decide +kernel
theorem dX7_takes_71 : decode cX7_takes 71 = .ok (.iaload, 1) := by decide +kernel
theorem dX7_takes_72 : decode cX7_takes 72 = .ok (.aload_n 0, 1) := by decide +kernel
theorem dX7_takes_73 : decode cX7_takes 73 = .ok (.getfield 21, 3) := by decide +kernel
theorem dX7_takes_76 : decode cX7_takes 76 = .ok (.sipush 128, 3) := by decide +kernel
theorem dX7_takes_79 : decode cX7_takes 79 = .ok (.iload_n 2, 1) := by decide +kernel
theorem dX7_takes_80 : decode cX7_takes 80 = .ok (.iconst 1, 1) := by decide +kernel
theorem dX7_takes_81 : decode cX7_takes 81 = .ok (.isub, 1) := by decide +kernel
theorem dX7_takes_82 : decode cX7_takes 82 = .ok (.imul, 1) := by decide +kernel
theorem dX7_takes_83 : decode cX7_takes 83 = .ok (.iload_n 3, 1) := by decide +kernel
theorem dX7_takes_84 : decode cX7_takes 84 = .ok (.iadd, 1) := by decide +kernel
theorem dX7_takes_85 : decode cX7_takes 85 = .ok (.iaload, 1) := by decide +kernel
theorem dX7_takes_86 : decode cX7_takes 86 = .ok (.iadd, 1) := by decide +kernel
theorem dX7_takes_87 : decode cX7_takes 87 = .ok (.iload_n 1, 1) := by decide +kernel
theorem dX7_takes_88 : decode cX7_takes 88 = .ok (.irem, 1) := by decide +kernel
theorem dX7_takes_89 : decode cX7_takes 89 = .ok (.iastore, 1) := by decide +kernel
theorem dX7_takes_90 : decode cX7_takes 90 = .ok (.iinc 3 1, 3) := by decide +kernel
theorem dX7_takes_93 : decode cX7_takes 93 = .ok (.goto (-68), 3) := by decide +kernel
theorem dX7_takes_96 : decode cX7_takes 96 = .ok (.iinc 2 1, 3) := by decide +kernel
theorem dX7_takes_99 : decode cX7_takes 99 = .ok (.goto (-83), 3) := by decide +kernel
theorem dX7_takes_102 : decode cX7_takes 102 = .ok (.return_, 1) := by decide +kernel
set_option maxRecDepth 20000 in
theorem ggX7_remainder_X7_modulus : GoodIn wsX7_remainder wsX7_modulus := goodIn_r _ [7, 8, 9, 10, 6, 11, 20, 21, 22, 23, 24, 25, 26, 27, 28, 29, 30, 31, 32, 33, 34] (by decide +kernel) (by decide +kernel)
set_option maxRecDepth 20000 in
theorem gX7_remainder_X7_modulus : GoodIn wsX7_remainder (wsV RX7 45 RX7 yX7_modulus wsX7_modulus) := goodIn_app (goodIn_of _ (by decide +kernel)) ggX7_remainder_X7_modulus
set_option maxRecDepth 20000 in
theorem ggX7_remainder_X7_takes : GoodIn wsX7_remainder wsX7_takes := goodIn_r _ [15, 16, 2, 20, 21, 22, 23, 24, 25, 26, 27, 28, 29, 30, 31, 32, 33, 34] (by decide +kernel) (by decide +kernel)
set_option maxRecDepth 20000 in
theorem gX7_remainder_X7_takes : GoodIn wsX7_remainder (wsV RX7 49 RX7 yX7_takes wsX7_takes) := goodIn_app (goodIn_of _ (by decide +kernel)) ggX7_remainder_X7_takes
set_option maxRecDepth 20000 in
theorem ggX7_remainder_X7_isIn : GoodIn wsX7_remainder wsX7_isIn := goodIn_r _ [19] (by decide +kernel) (by decide +kernel)
set_option maxRecDepth 20000 in
theorem gX7_remainder_X7_isIn : GoodIn wsX7_remainder (va_wsS RX7 55 yX7_isIn wsX7_isIn) := goodIn_app (goodIn_of _ (by decide +kernel)) ggX7_remainder_X7_isIn
theorem dX7_remainder_0 : decode cX7_remainder 0 = .ok (.aload_n 0, 1) := by decide +kernel
theorem dX7_remainder_1 : decode cX7_remainder 1 = .ok (.aload_n 0, 1) := by decide +kernel
theorem dX7_remainder_2 : decode cX7_remainder 2 = .ok (.invokevirtual 45, 3) := by decide +kernel
theorem dX7_remainder_5 : decode cX7_remainder 5 = .ok (.invokevirtual 49, 3) := by decide +kernel
theorem dX7_remainder_8 : decode cX7_remainder 8 = .ok (.iload_n 1, 1) := by decide +kernel
theorem dX7_remainder_9 : decode cX7_remainder 9 = .ok (.i2l, 1) := by decide +kernel
theorem dX7_remainder_10 : decode cX7_remainder 10 = .ok (.lconst 0, 1) := by decide +kernel
theorem dX7_remainder_11 : decode cX7_remainder 11 = .ok (.ldc2_w 53, 3) := by decide +kernel
theorem dX7_remainder_14 : decode cX7_remainder 14 = .ok (.invokestatic 55, 3) := by decide +kernel
theorem dX7_remainder_17 : decode cX7_remainder 17 = .ok (.ifCond .eq 29, 3) := by decide +kernel
theorem dX7_remainder_20 : decode cX7_remainder 20 = .ok (.iload_n 2, 1) := by decide +kernel
theorem dX7_remainder_21 : decode cX7_remainder 21 = .ok (.i2l, 1) := by decide +kernel
theorem dX7_remainder_22 : decode cX7_remainder 22 = .ok (.lconst 0, 1) := by decide +kernel
theorem dX7_remainder_23 : decode cX7_remainder 23 = .ok (.iload_n 1, 1) := by decide +kernel
theorem dX7_remainder_24 : decode cX7_remainder 24 = .ok (.i2l, 1) := by decide +kernel
theorem dX7_remainder_25 : decode cX7_remainder 25 = .ok (.invokestatic 55, 3) := by decide +kernel
theorem dX7_remainder_28 : decode cX7_remainder 28 = .ok (.ifCond .eq 18, 3) := by decide +kernel
theorem dX7_remainder_31 : decode cX7_remainder 31 = .ok (.aload_n 0, 1) := by decide +kernel
theorem dX7_remainder_32 : decode cX7_remainder 32 = .ok (.getfield 21, 3) := by decide +kernel
theorem dX7_remainder_35 : decode cX7_remainder 35 = .ok (.sipush 128, 3) := by decide +kernel
theorem dX7_remainder_38 : decode cX7_remainder 38 = .ok (.iload_n 1, 1) := by decide +kernel
theorem dX7_remainder_39 : decode cX7_remainder 39 = .ok (.imul, 1) := by decide +kernel
theorem dX7_remainder_40 : decode cX7_remainder 40 = .ok (.iload_n 2, 1) := by decide +kernel
theorem dX7_remainder_41 : decode cX7_remainder 41 = .ok (.iadd, 1) := by decide +kernel
theorem dX7_remainder_42 : decode cX7_remainder 42 = .ok (.iaload, 1) := by decide +kernel
theorem dX7_remainder_43 : decode cX7_remainder 43 = .ok (.goto 4, 3) := by decide +kernel
theorem dX7_remainder_46 : decode cX7_remainder 46 = .ok (.iconst 0, 1) := by decide +kernel
theorem dX7_remainder_47 : decode cX7_remainder 47 = .ok (.ireturn, 1) := by decide +kernel
theorem dX7_carries_0 : decode cX7_carries 0 = .ok (.aload_n 0, 1) := by decide +kernel
theorem dX7_carries_1 : decode cX7_carries 1 = .ok (.getfield 11, 3) := by decide +kernel
theorem dX7_carries_4 : decode cX7_carries 4 = .ok (.iconst 0, 1) := by decide +kernel
theorem dX7_carries_5 : decode cX7_carries 5 = .ok (.iaload, 1) := by decide +kernel
theorem dX7_carries_6 : decode cX7_carries 6 = .ok (.istore_n 3, 1) := by decide +kernel
theorem dX7_carries_7 : decode cX7_carries 7 = .ok (.iload_n 2, 1) := by decide +kernel
theorem dX7_carries_8 : decode cX7_carries 8 = .ok (.istore 4, 2) := by decide +kernel
theorem dX7_carries_10 : decode cX7_carries 10 = .ok (.iload_n 1, 1) := by decide +kernel
theorem dX7_carries_11 : decode cX7_carries 11 = .ok (.iload_n 2, 1) := by decide +kernel
theorem dX7_carries_12 : decode cX7_carries 12 = .ok (.isub, 1) := by decide +kernel
theorem dX7_carries_13 : decode cX7_carries 13 = .ok (.istore 5, 2) := by decide +kernel
theorem dX7_carries_15 : decode cX7_carries 15 = .ok (.iconst 0, 1) := by decide +kernel
theorem dX7_carries_16 : decode cX7_carries 16 = .ok (.istore 6, 2) := by decide +kernel
theorem dX7_carries_18 : decode cX7_carries 18 = .ok (.iconst 0, 1) := by decide +kernel
theorem dX7_carries_19 : decode cX7_carries 19 = .ok (.istore 7, 2) := by decide +kernel
theorem dX7_carries_21 : decode cX7_carries 21 = .ok (.iload 4, 2) := by decide +kernel
theorem dX7_carries_23 : decode cX7_carries 23 = .ok (.ifCond .gt 8, 3) := by decide +kernel
theorem dX7_carries_26 : decode cX7_carries 26 = .ok (.iload 5, 2) := by decide +kernel
theorem dX7_carries_28 : decode cX7_carries 28 = .ok (.ifCond .le 48, 3) := by decide +kernel
theorem dX7_carries_31 : decode cX7_carries 31 = .ok (.iload 4, 2) := by decide +kernel
theorem dX7_carries_33 : decode cX7_carries 33 = .ok (.iload_n 3, 1) := by decide +kernel
theorem dX7_carries_34 : decode cX7_carries 34 = .ok (.irem, 1) := by decide +kernel
theorem dX7_carries_35 : decode cX7_carries 35 = .ok (.iload 5, 2) := by decide +kernel
theorem dX7_carries_37 : decode cX7_carries 37 = .ok (.iload_n 3, 1) := by decide +kernel
theorem dX7_carries_38 : decode cX7_carries 38 = .ok (.irem, 1) := by decide +kernel
theorem dX7_carries_39 : decode cX7_carries 39 = .ok (.iadd, 1) := by decide +kernel
theorem dX7_carries_40 : decode cX7_carries 40 = .ok (.iload 6, 2) := by decide +kernel
theorem dX7_carries_42 : decode cX7_carries 42 = .ok (.iadd, 1) := by decide +kernel
theorem dX7_carries_43 : decode cX7_carries 43 = .ok (.iload_n 3, 1) := by decide +kernel
theorem dX7_carries_44 : decode cX7_carries 44 = .ok (.if_icmp .lt 7, 3) := by decide +kernel
theorem dX7_carries_47 : decode cX7_carries 47 = .ok (.iconst 1, 1) := by decide +kernel
theorem dX7_carries_48 : decode cX7_carries 48 = .ok (.goto 4, 3) := by decide +kernel
theorem dX7_carries_51 : decode cX7_carries 51 = .ok (.iconst 0, 1) := by decide +kernel
theorem dX7_carries_52 : decode cX7_carries 52 = .ok (.istore 6, 2) := by decide +kernel
theorem dX7_carries_54 : decode cX7_carries 54 = .ok (.iload 7, 2) := by decide +kernel
theorem dX7_carries_56 : decode cX7_carries 56 = .ok (.iload 6, 2) := by decide +kernel
theorem dX7_carries_58 : decode cX7_carries 58 = .ok (.iadd, 1) := by decide +kernel
theorem dX7_carries_59 : decode cX7_carries 59 = .ok (.istore 7, 2) := by decide +kernel
theorem dX7_carries_61 : decode cX7_carries 61 = .ok (.iload 4, 2) := by decide +kernel
theorem dX7_carries_63 : decode cX7_carries 63 = .ok (.iload_n 3, 1) := by decide +kernel
theorem dX7_carries_64 : decode cX7_carries 64 = .ok (.idiv, 1) := by decide +kernel
theorem dX7_carries_65 : decode cX7_carries 65 = .ok (.istore 4, 2) := by decide +kernel
theorem dX7_carries_67 : decode cX7_carries 67 = .ok (.iload 5, 2) := by decide +kernel
theorem dX7_carries_69 : decode cX7_carries 69 = .ok (.iload_n 3, 1) := by decide +kernel
theorem dX7_carries_70 : decode cX7_carries 70 = .ok (.idiv, 1) := by decide +kernel
theorem dX7_carries_71 : decode cX7_carries 71 = .ok (.istore 5, 2) := by decide +kernel
theorem dX7_carries_73 : decode cX7_carries 73 = .ok (.goto (-52), 3) := by decide +kernel
theorem dX7_carries_76 : decode cX7_carries 76 = .ok (.iload 7, 2) := by decide +kernel
theorem dX7_carries_78 : decode cX7_carries 78 = .ok (.ireturn, 1) := by decide +kernel
theorem dX7_small_0 : decode cX7_small 0 = .ok (.iconst 1, 1) := by decide +kernel
theorem dX7_small_1 : decode cX7_small 1 = .ok (.istore_n 2, 1) := by decide +kernel
theorem dX7_small_2 : decode cX7_small 2 = .ok (.iconst 1, 1) := by decide +kernel
theorem dX7_small_3 : decode cX7_small 3 = .ok (.istore_n 3, 1) := by decide +kernel
theorem dX7_small_4 : decode cX7_small 4 = .ok (.iload_n 3, 1) := by decide +kernel
theorem dX7_small_5 : decode cX7_small 5 = .ok (.iload_n 1, 1) := by decide +kernel
theorem dX7_small_6 : decode cX7_small 6 = .ok (.if_icmp .gt 19, 3) := by decide +kernel
theorem dX7_small_9 : decode cX7_small 9 = .ok (.iload_n 2, 1) := by decide +kernel
theorem dX7_small_10 : decode cX7_small 10 = .ok (.iload_n 0, 1) := by decide +kernel
theorem dX7_small_11 : decode cX7_small 11 = .ok (.iload_n 1, 1) := by decide +kernel
theorem dX7_small_12 : decode cX7_small 12 = .ok (.isub, 1) := by decide +kernel
theorem dX7_small_13 : decode cX7_small 13 = .ok (.iload_n 3, 1) := by decide +kernel
theorem dX7_small_14 : decode cX7_small 14 = .ok (.iadd, 1) := by decide +kernel
theorem dX7_small_15 : decode cX7_small 15 = .ok (.imul, 1) := by decide +kernel
theorem dX7_small_16 : decode cX7_small 16 = .ok (.iload_n 3, 1) := by decide +kernel
theorem dX7_small_17 : decode cX7_small 17 = .ok (.idiv, 1) := by decide +kernel
theorem dX7_small_18 : decode cX7_small 18 = .ok (.istore_n 2, 1) := by decide +kernel
theorem dX7_small_19 : decode cX7_small 19 = .ok (.iinc 3 1, 3) := by decide +kernel
theorem dX7_small_22 : decode cX7_small 22 = .ok (.goto (-18), 3) := by decide +kernel
theorem dX7_small_25 : decode cX7_small 25 = .ok (.iload_n 1, 1) := by decide +kernel
theorem dX7_small_26 : decode cX7_small 26 = .ok (.iload_n 0, 1) := by decide +kernel
theorem dX7_small_27 : decode cX7_small 27 = .ok (.if_icmp .le 7, 3) := by decide +kernel
theorem dX7_small_30 : decode cX7_small 30 = .ok (.iconst 0, 1) := by decide +kernel
theorem dX7_small_31 : decode cX7_small 31 = .ok (.goto 4, 3) := by decide +kernel
theorem dX7_small_34 : decode cX7_small 34 = .ok (.iload_n 2, 1) := by decide +kernel
theorem dX7_small_35 : decode cX7_small 35 = .ok (.ireturn, 1) := by decide +kernel
set_option maxRecDepth 20000 in
theorem ggX7_lucas_X7_small : GoodIn wsX7_lucas wsX7_small := goodIn_r _ [5] (by decide +kernel) (by decide +kernel)
set_option maxRecDepth 20000 in
theorem gX7_lucas_X7_small : GoodIn wsX7_lucas (va_wsS RX7 59 yX7_small wsX7_small) := goodIn_app (goodIn_of _ (by decide +kernel)) ggX7_lucas_X7_small
theorem dX7_lucas_0 : decode cX7_lucas 0 = .ok (.iconst 1, 1) := by decide +kernel
theorem dX7_lucas_1 : decode cX7_lucas 1 = .ok (.istore_n 3, 1) := by decide +kernel
theorem dX7_lucas_2 : decode cX7_lucas 2 = .ok (.iload_n 1, 1) := by decide +kernel
theorem dX7_lucas_3 : decode cX7_lucas 3 = .ok (.istore 4, 2) := by decide +kernel
theorem dX7_lucas_5 : decode cX7_lucas 5 = .ok (.iload_n 2, 1) := by decide +kernel
theorem dX7_lucas_6 : decode cX7_lucas 6 = .ok (.istore 5, 2) := by decide +kernel
theorem dX7_lucas_8 : decode cX7_lucas 8 = .ok (.iload 4, 2) := by decide +kernel
theorem dX7_lucas_10 : decode cX7_lucas 10 = .ok (.ifCond .gt 8, 3) := by decide +kernel
theorem dX7_lucas_13 : decode cX7_lucas 13 = .ok (.iload 5, 2) := by decide +kernel
theorem dX7_lucas_15 : decode cX7_lucas 15 = .ok (.ifCond .le 59, 3) := by decide +kernel
theorem dX7_lucas_18 : decode cX7_lucas 18 = .ok (.iload_n 3, 1) := by decide +kernel
theorem dX7_lucas_19 : decode cX7_lucas 19 = .ok (.iload 4, 2) := by decide +kernel
theorem dX7_lucas_21 : decode cX7_lucas 21 = .ok (.aload_n 0, 1) := by decide +kernel
theorem dX7_lucas_22 : decode cX7_lucas 22 = .ok (.getfield 11, 3) := by decide +kernel
theorem dX7_lucas_25 : decode cX7_lucas 25 = .ok (.iconst 0, 1) := by decide +kernel
theorem dX7_lucas_26 : decode cX7_lucas 26 = .ok (.iaload, 1) := by decide +kernel
theorem dX7_lucas_27 : decode cX7_lucas 27 = .ok (.irem, 1) := by decide +kernel
theorem dX7_lucas_28 : decode cX7_lucas 28 = .ok (.iload 5, 2) := by decide +kernel
theorem dX7_lucas_30 : decode cX7_lucas 30 = .ok (.aload_n 0, 1) := by decide +kernel
theorem dX7_lucas_31 : decode cX7_lucas 31 = .ok (.getfield 11, 3) := by decide +kernel
theorem dX7_lucas_34 : decode cX7_lucas 34 = .ok (.iconst 0, 1) := by decide +kernel
theorem dX7_lucas_35 : decode cX7_lucas 35 = .ok (.iaload, 1) := by decide +kernel
theorem dX7_lucas_36 : decode cX7_lucas 36 = .ok (.irem, 1) := by decide +kernel
theorem dX7_lucas_37 : decode cX7_lucas 37 = .ok (.invokestatic 59, 3) := by decide +kernel
theorem dX7_lucas_40 : decode cX7_lucas 40 = .ok (.imul, 1) := by decide +kernel
theorem dX7_lucas_41 : decode cX7_lucas 41 = .ok (.aload_n 0, 1) := by decide +kernel
theorem dX7_lucas_42 : decode cX7_lucas 42 = .ok (.getfield 11, 3) := by decide +kernel
theorem dX7_lucas_45 : decode cX7_lucas 45 = .ok (.iconst 0, 1) := by decide +kernel
theorem dX7_lucas_46 : decode cX7_lucas 46 = .ok (.iaload, 1) := by decide +kernel
theorem dX7_lucas_47 : decode cX7_lucas 47 = .ok (.irem, 1) := by decide +kernel
theorem dX7_lucas_48 : decode cX7_lucas 48 = .ok (.istore_n 3, 1) := by decide +kernel
theorem dX7_lucas_49 : decode cX7_lucas 49 = .ok (.iload 4, 2) := by decide +kernel
theorem dX7_lucas_51 : decode cX7_lucas 51 = .ok (.aload_n 0, 1) := by decide +kernel
theorem dX7_lucas_52 : decode cX7_lucas 52 = .ok (.getfield 11, 3) := by decide +kernel
theorem dX7_lucas_55 : decode cX7_lucas 55 = .ok (.iconst 0, 1) := by decide +kernel
theorem dX7_lucas_56 : decode cX7_lucas 56 = .ok (.iaload, 1) := by decide +kernel
theorem dX7_lucas_57 : decode cX7_lucas 57 = .ok (.idiv, 1) := by decide +kernel
theorem dX7_lucas_58 : decode cX7_lucas 58 = .ok (.istore 4, 2) := by decide +kernel
theorem dX7_lucas_60 : decode cX7_lucas 60 = .ok (.iload 5, 2) := by decide +kernel
theorem dX7_lucas_62 : decode cX7_lucas 62 = .ok (.aload_n 0, 1) := by decide +kernel
theorem dX7_lucas_63 : decode cX7_lucas 63 = .ok (.getfield 11, 3) := by decide +kernel
theorem dX7_lucas_66 : decode cX7_lucas 66 = .ok (.iconst 0, 1) := by decide +kernel
theorem dX7_lucas_67 : decode cX7_lucas 67 = .ok (.iaload, 1) := by decide +kernel
theorem dX7_lucas_68 : decode cX7_lucas 68 = .ok (.idiv, 1) := by decide +kernel
theorem dX7_lucas_69 : decode cX7_lucas 69 = .ok (.istore 5, 2) := by decide +kernel
theorem dX7_lucas_71 : decode cX7_lucas 71 = .ok (.goto (-63), 3) := by decide +kernel
theorem dX7_lucas_74 : decode cX7_lucas 74 = .ok (.iload_n 3, 1) := by decide +kernel
theorem dX7_lucas_75 : decode cX7_lucas 75 = .ok (.aload_n 0, 1) := by decide +kernel
theorem dX7_lucas_76 : decode cX7_lucas 76 = .ok (.getfield 11, 3) := by decide +kernel
theorem dX7_lucas_79 : decode cX7_lucas 79 = .ok (.iconst 0, 1) := by decide +kernel
theorem dX7_lucas_80 : decode cX7_lucas 80 = .ok (.iaload, 1) := by decide +kernel
theorem dX7_lucas_81 : decode cX7_lucas 81 = .ok (.irem, 1) := by decide +kernel
theorem dX7_lucas_82 : decode cX7_lucas 82 = .ok (.ireturn, 1) := by decide +kernel
theorem dX7_legendre_0 : decode cX7_legendre 0 = .ok (.iconst 0, 1) := by decide +kernel
theorem dX7_legendre_1 : decode cX7_legendre 1 = .ok (.istore_n 3, 1) := by decide +kernel
theorem dX7_legendre_2 : decode cX7_legendre 2 = .ok (.aload_n 0, 1) := by decide +kernel
theorem dX7_legendre_3 : decode cX7_legendre 3 = .ok (.getfield 11, 3) := by decide +kernel
theorem dX7_legendre_6 : decode cX7_legendre 6 = .ok (.iconst 0, 1) := by decide +kernel
theorem dX7_legendre_7 : decode cX7_legendre 7 = .ok (.iaload, 1) := by decide +kernel
theorem dX7_legendre_8 : decode cX7_legendre 8 = .ok (.istore 4, 2) := by decide +kernel
theorem dX7_legendre_10 : decode cX7_legendre 10 = .ok (.iload 4, 2) := by decide +kernel
theorem dX7_legendre_12 : decode cX7_legendre 12 = .ok (.iload_n 1, 1) := by decide +kernel
theorem dX7_legendre_13 : decode cX7_legendre 13 = .ok (.if_icmp .gt 36, 3) := by decide +kernel
theorem dX7_legendre_16 : decode cX7_legendre 16 = .ok (.iload_n 3, 1) := by decide +kernel
theorem dX7_legendre_17 : decode cX7_legendre 17 = .ok (.iload_n 1, 1) := by decide +kernel
theorem dX7_legendre_18 : decode cX7_legendre 18 = .ok (.iload 4, 2) := by decide +kernel
theorem dX7_legendre_20 : decode cX7_legendre 20 = .ok (.idiv, 1) := by decide +kernel
theorem dX7_legendre_21 : decode cX7_legendre 21 = .ok (.iload_n 2, 1) := by decide +kernel
theorem dX7_legendre_22 : decode cX7_legendre 22 = .ok (.iload 4, 2) := by decide +kernel
theorem dX7_legendre_24 : decode cX7_legendre 24 = .ok (.idiv, 1) := by decide +kernel
theorem dX7_legendre_25 : decode cX7_legendre 25 = .ok (.isub, 1) := by decide +kernel
theorem dX7_legendre_26 : decode cX7_legendre 26 = .ok (.iload_n 1, 1) := by decide +kernel
theorem dX7_legendre_27 : decode cX7_legendre 27 = .ok (.iload_n 2, 1) := by decide +kernel
theorem dX7_legendre_28 : decode cX7_legendre 28 = .ok (.isub, 1) := by decide +kernel
theorem dX7_legendre_29 : decode cX7_legendre 29 = .ok (.iload 4, 2) := by decide +kernel
theorem dX7_legendre_31 : decode cX7_legendre 31 = .ok (.idiv, 1) := by decide +kernel
theorem dX7_legendre_32 : decode cX7_legendre 32 = .ok (.isub, 1) := by decide +kernel
theorem dX7_legendre_33 : decode cX7_legendre 33 = .ok (.iadd, 1) := by decide +kernel
theorem dX7_legendre_34 : decode cX7_legendre 34 = .ok (.istore_n 3, 1) := by decide +kernel
theorem dX7_legendre_35 : decode cX7_legendre 35 = .ok (.iload 4, 2) := by decide +kernel
theorem dX7_legendre_37 : decode cX7_legendre 37 = .ok (.aload_n 0, 1) := by decide +kernel
theorem dX7_legendre_38 : decode cX7_legendre 38 = .ok (.getfield 11, 3) := by decide +kernel
theorem dX7_legendre_41 : decode cX7_legendre 41 = .ok (.iconst 0, 1) := by decide +kernel
theorem dX7_legendre_42 : decode cX7_legendre 42 = .ok (.iaload, 1) := by decide +kernel
theorem dX7_legendre_43 : decode cX7_legendre 43 = .ok (.imul, 1) := by decide +kernel
theorem dX7_legendre_44 : decode cX7_legendre 44 = .ok (.istore 4, 2) := by decide +kernel
theorem dX7_legendre_46 : decode cX7_legendre 46 = .ok (.goto (-36), 3) := by decide +kernel
theorem dX7_legendre_49 : decode cX7_legendre 49 = .ok (.iload_n 3, 1) := by decide +kernel
theorem dX7_legendre_50 : decode cX7_legendre 50 = .ok (.ireturn, 1) := by decide +kernel
theorem dX7_within_0 : decode cX7_within 0 = .ok (.iload_n 1, 1) := by decide +kernel
theorem dX7_within_1 : decode cX7_within 1 = .ok (.istore_n 3, 1) := by decide +kernel
theorem dX7_within_2 : decode cX7_within 2 = .ok (.iload_n 2, 1) := by decide +kernel
theorem dX7_within_3 : decode cX7_within 3 = .ok (.istore 4, 2) := by decide +kernel
theorem dX7_within_5 : decode cX7_within 5 = .ok (.iload 4, 2) := by decide +kernel
theorem dX7_within_7 : decode cX7_within 7 = .ok (.ifCond .le 48, 3) := by decide +kernel
theorem dX7_within_10 : decode cX7_within 10 = .ok (.iload 4, 2) := by decide +kernel
theorem dX7_within_12 : decode cX7_within 12 = .ok (.aload_n 0, 1) := by decide +kernel
theorem dX7_within_13 : decode cX7_within 13 = .ok (.getfield 11, 3) := by decide +kernel
theorem dX7_within_16 : decode cX7_within 16 = .ok (.iconst 0, 1) := by decide +kernel
theorem dX7_within_17 : decode cX7_within 17 = .ok (.iaload, 1) := by decide +kernel
theorem dX7_within_18 : decode cX7_within 18 = .ok (.irem, 1) := by decide +kernel
theorem dX7_within_19 : decode cX7_within 19 = .ok (.iload_n 3, 1) := by decide +kernel
theorem dX7_within_20 : decode cX7_within 20 = .ok (.aload_n 0, 1) := by decide +kernel
theorem dX7_within_21 : decode cX7_within 21 = .ok (.getfield 11, 3) := by decide +kernel
theorem dX7_within_24 : decode cX7_within 24 = .ok (.iconst 0, 1) := by decide +kernel
theorem dX7_within_25 : decode cX7_within 25 = .ok (.iaload, 1) := by decide +kernel
theorem dX7_within_26 : decode cX7_within 26 = .ok (.irem, 1) := by decide +kernel
theorem dX7_within_27 : decode cX7_within 27 = .ok (.if_icmp .le 5, 3) := by decide +kernel
theorem dX7_within_30 : decode cX7_within 30 = .ok (.iconst 0, 1) := by decide +kernel
theorem dX7_within_31 : decode cX7_within 31 = .ok (.ireturn, 1) := by decide +kernel
theorem dX7_within_32 : decode cX7_within 32 = .ok (.iload_n 3, 1) := by decide +kernel
theorem dX7_within_33 : decode cX7_within 33 = .ok (.aload_n 0, 1) := by decide +kernel
theorem dX7_within_34 : decode cX7_within 34 = .ok (.getfield 11, 3) := by decide +kernel
theorem dX7_within_37 : decode cX7_within 37 = .ok (.iconst 0, 1) := by decide +kernel
theorem dX7_within_38 : decode cX7_within 38 = .ok (.iaload, 1) := by decide +kernel
theorem dX7_within_39 : decode cX7_within 39 = .ok (.idiv, 1) := by decide +kernel
theorem dX7_within_40 : decode cX7_within 40 = .ok (.istore_n 3, 1) := by decide +kernel
theorem dX7_within_41 : decode cX7_within 41 = .ok (.iload 4, 2) := by decide +kernel
theorem dX7_within_43 : decode cX7_within 43 = .ok (.aload_n 0, 1) := by decide +kernel
theorem dX7_within_44 : decode cX7_within 44 = .ok (.getfield 11, 3) := by decide +kernel
theorem dX7_within_47 : decode cX7_within 47 = .ok (.iconst 0, 1) := by decide +kernel
theorem dX7_within_48 : decode cX7_within 48 = .ok (.iaload, 1) := by decide +kernel
theorem dX7_within_49 : decode cX7_within 49 = .ok (.idiv, 1) := by decide +kernel
theorem dX7_within_50 : decode cX7_within 50 = .ok (.istore 4, 2) := by decide +kernel
theorem dX7_within_52 : decode cX7_within 52 = .ok (.goto (-47), 3) := by decide +kernel
theorem dX7_within_55 : decode cX7_within 55 = .ok (.iconst 1, 1) := by decide +kernel
theorem dX7_within_56 : decode cX7_within 56 = .ok (.ireturn, 1) := by decide +kernel
set_option maxRecDepth 20000 in
theorem ggX7_tells_X7_remainder : GoodIn wsX7_tells wsX7_remainder := goodIn_r _ [5, 6, 7, 8, 9, 10, 4, 11, 12, 13, 14, 15, 16, 17, 18, 19, 20, 21, 22, 23, 43, 44, 45, 46, 47, 48, 49, 50, 51, 52, 53, 54, 55, 56, 57] (by decide +kernel) (by decide +kernel)
set_option maxRecDepth 20000 in
theorem gX7_tells_X7_remainder : GoodIn wsX7_tells (wsV RX7 62 RX7 yX7_remainder wsX7_remainder) := goodIn_app (goodIn_of _ (by decide +kernel)) ggX7_tells_X7_remainder
set_option maxRecDepth 20000 in
theorem ggX7_tells_X7_lucas : GoodIn wsX7_tells wsX7_lucas := goodIn_r _ [27, 12, 28, 29, 4, 30, 43, 44, 45, 46, 47, 48, 49, 50, 51, 52, 53, 54, 55, 56, 57] (by decide +kernel) (by decide +kernel)
set_option maxRecDepth 20000 in
theorem gX7_tells_X7_lucas : GoodIn wsX7_tells (wsV RX7 65 RX7 yX7_lucas wsX7_lucas) := goodIn_app (goodIn_of _ (by decide +kernel)) ggX7_tells_X7_lucas
set_option maxRecDepth 20000 in
theorem ggX7_tells_X7_carries : GoodIn wsX7_tells wsX7_carries := goodIn_r _ [34, 12, 43, 44, 45, 46, 47, 48, 49, 50, 51, 52, 53, 54, 55, 56, 57] (by decide +kernel) (by decide +kernel)
set_option maxRecDepth 20000 in
theorem gX7_tells_X7_carries : GoodIn wsX7_tells (wsV RX7 68 RX7 yX7_carries wsX7_carries) := goodIn_app (goodIn_of _ (by decide +kernel)) ggX7_tells_X7_carries
set_option maxRecDepth 20000 in
theorem ggX7_tells_X7_legendre : GoodIn wsX7_tells wsX7_legendre := goodIn_r _ [38, 12, 43, 44, 45, 46, 47, 48, 49, 50, 51, 52, 53, 54, 55, 56, 57] (by decide +kernel) (by decide +kernel)
set_option maxRecDepth 20000 in
theorem gX7_tells_X7_legendre : GoodIn wsX7_tells (wsV RX7 71 RX7 yX7_legendre wsX7_legendre) := goodIn_app (goodIn_of _ (by decide +kernel)) ggX7_tells_X7_legendre
set_option maxRecDepth 20000 in
theorem ggX7_tells_X7_within : GoodIn wsX7_tells wsX7_within := goodIn_r _ [42, 12, 43, 44, 45, 46, 47, 48, 49, 50, 51, 52, 53, 54, 55, 56, 57] (by decide +kernel) (by decide +kernel)
set_option maxRecDepth 20000 in
theorem gX7_tells_X7_within : GoodIn wsX7_tells (wsV RX7 74 RX7 yX7_within wsX7_within) := goodIn_app (goodIn_of _ (by decide +kernel)) ggX7_tells_X7_within
theorem dX7_tells_0 : decode cX7_tells 0 = .ok (.iload_n 1, 1) := by decide +kernel
theorem dX7_tells_1 : decode cX7_tells 1 = .ok (.tableswitch 59 0 3 #[31, 38, 45, 52], 31) := by decide +kernel
theorem dX7_tells_32 : decode cX7_tells 32 = .ok (.aload_n 0, 1) := by decide +kernel
theorem dX7_tells_33 : decode cX7_tells 33 = .ok (.iload_n 2, 1) := by decide +kernel
theorem dX7_tells_34 : decode cX7_tells 34 = .ok (.iload_n 3, 1) := by decide +kernel
theorem dX7_tells_35 : decode cX7_tells 35 = .ok (.invokevirtual 62, 3) := by decide +kernel
theorem dX7_tells_38 : decode cX7_tells 38 = .ok (.ireturn, 1) := by decide +kernel
theorem dX7_tells_39 : decode cX7_tells 39 = .ok (.aload_n 0, 1) := by decide +kernel
theorem dX7_tells_40 : decode cX7_tells 40 = .ok (.iload_n 2, 1) := by decide +kernel
theorem dX7_tells_41 : decode cX7_tells 41 = .ok (.iload_n 3, 1) := by decide +kernel
theorem dX7_tells_42 : decode cX7_tells 42 = .ok (.invokevirtual 65, 3) := by decide +kernel
theorem dX7_tells_45 : decode cX7_tells 45 = .ok (.ireturn, 1) := by decide +kernel
theorem dX7_tells_46 : decode cX7_tells 46 = .ok (.aload_n 0, 1) := by decide +kernel
theorem dX7_tells_47 : decode cX7_tells 47 = .ok (.iload_n 2, 1) := by decide +kernel
theorem dX7_tells_48 : decode cX7_tells 48 = .ok (.iload_n 3, 1) := by decide +kernel
theorem dX7_tells_49 : decode cX7_tells 49 = .ok (.invokevirtual 68, 3) := by decide +kernel
theorem dX7_tells_52 : decode cX7_tells 52 = .ok (.ireturn, 1) := by decide +kernel
theorem dX7_tells_53 : decode cX7_tells 53 = .ok (.aload_n 0, 1) := by decide +kernel
theorem dX7_tells_54 : decode cX7_tells 54 = .ok (.iload_n 2, 1) := by decide +kernel
theorem dX7_tells_55 : decode cX7_tells 55 = .ok (.iload_n 3, 1) := by decide +kernel
theorem dX7_tells_56 : decode cX7_tells 56 = .ok (.invokevirtual 71, 3) := by decide +kernel
theorem dX7_tells_59 : decode cX7_tells 59 = .ok (.ireturn, 1) := by decide +kernel
theorem dX7_tells_60 : decode cX7_tells 60 = .ok (.aload_n 0, 1) := by decide +kernel
theorem dX7_tells_61 : decode cX7_tells 61 = .ok (.iload_n 2, 1) := by decide +kernel
theorem dX7_tells_62 : decode cX7_tells 62 = .ok (.iload_n 3, 1) := by decide +kernel
theorem dX7_tells_63 : decode cX7_tells 63 = .ok (.invokevirtual 74, 3) := by decide +kernel
theorem dX7_tells_66 : decode cX7_tells 66 = .ok (.ireturn, 1) := by decide +kernel
set_option maxRecDepth 20000 in
theorem ggX7_isRow_X7_isIn : GoodIn wsX7_isRow wsX7_isIn := goodIn_r _ [5] (by decide +kernel) (by decide +kernel)
set_option maxRecDepth 20000 in
theorem gX7_isRow_X7_isIn : GoodIn wsX7_isRow (va_wsS RX7 55 yX7_isIn wsX7_isIn) := goodIn_app (goodIn_of _ (by decide +kernel)) ggX7_isRow_X7_isIn
theorem dX7_isRow_0 : decode cX7_isRow 0 = .ok (.iload_n 0, 1) := by decide +kernel
theorem dX7_isRow_1 : decode cX7_isRow 1 = .ok (.i2l, 1) := by decide +kernel
theorem dX7_isRow_2 : decode cX7_isRow 2 = .ok (.lconst 0, 1) := by decide +kernel
theorem dX7_isRow_3 : decode cX7_isRow 3 = .ok (.ldc2_w 53, 3) := by decide +kernel
theorem dX7_isRow_6 : decode cX7_isRow 6 = .ok (.invokestatic 55, 3) := by decide +kernel
theorem dX7_isRow_9 : decode cX7_isRow 9 = .ok (.ireturn, 1) := by decide +kernel
set_option maxRecDepth 20000 in
theorem ggX7_isPlace_X7_isRow : GoodIn wsX7_isPlace wsX7_isRow := goodIn_r _ [4, 5, 6, 7, 3, 8] (by decide +kernel) (by decide +kernel)
set_option maxRecDepth 20000 in
theorem gX7_isPlace_X7_isRow : GoodIn wsX7_isPlace (va_wsS RX7 77 yX7_isRow wsX7_isRow) := goodIn_app (goodIn_of _ (by decide +kernel)) ggX7_isPlace_X7_isRow
set_option maxRecDepth 20000 in
theorem ggX7_isPlace_X7_isIn : GoodIn wsX7_isPlace wsX7_isIn := goodIn_r _ [8] (by decide +kernel) (by decide +kernel)
set_option maxRecDepth 20000 in
theorem gX7_isPlace_X7_isIn : GoodIn wsX7_isPlace (va_wsS RX7 55 yX7_isIn wsX7_isIn) := goodIn_app (goodIn_of _ (by decide +kernel)) ggX7_isPlace_X7_isIn
theorem dX7_isPlace_0 : decode cX7_isPlace 0 = .ok (.iload_n 0, 1) := by decide +kernel
theorem dX7_isPlace_1 : decode cX7_isPlace 1 = .ok (.invokestatic 77, 3) := by decide +kernel
theorem dX7_isPlace_4 : decode cX7_isPlace 4 = .ok (.ifCond .eq 18, 3) := by decide +kernel
theorem dX7_isPlace_7 : decode cX7_isPlace 7 = .ok (.iload_n 1, 1) := by decide +kernel
theorem dX7_isPlace_8 : decode cX7_isPlace 8 = .ok (.i2l, 1) := by decide +kernel
theorem dX7_isPlace_9 : decode cX7_isPlace 9 = .ok (.lconst 0, 1) := by decide +kernel
theorem dX7_isPlace_10 : decode cX7_isPlace 10 = .ok (.iload_n 0, 1) := by decide +kernel
theorem dX7_isPlace_11 : decode cX7_isPlace 11 = .ok (.i2l, 1) := by decide +kernel
theorem dX7_isPlace_12 : decode cX7_isPlace 12 = .ok (.invokestatic 55, 3) := by decide +kernel
theorem dX7_isPlace_15 : decode cX7_isPlace 15 = .ok (.ifCond .eq 7, 3) := by decide +kernel
theorem dX7_isPlace_18 : decode cX7_isPlace 18 = .ok (.iconst 1, 1) := by decide +kernel
theorem dX7_isPlace_19 : decode cX7_isPlace 19 = .ok (.goto 4, 3) := by decide +kernel
theorem dX7_isPlace_22 : decode cX7_isPlace 22 = .ok (.iconst 0, 1) := by decide +kernel
theorem dX7_isPlace_23 : decode cX7_isPlace 23 = .ok (.ireturn, 1) := by decide +kernel
set_option maxRecDepth 20000 in
theorem ggX7_isKind_X7_isIn : GoodIn wsX7_isKind wsX7_isIn := goodIn_r _ [5] (by decide +kernel) (by decide +kernel)
set_option maxRecDepth 20000 in
theorem gX7_isKind_X7_isIn : GoodIn wsX7_isKind (va_wsS RX7 55 yX7_isIn wsX7_isIn) := goodIn_app (goodIn_of _ (by decide +kernel)) ggX7_isKind_X7_isIn
theorem dX7_isKind_0 : decode cX7_isKind 0 = .ok (.iload_n 0, 1) := by decide +kernel
theorem dX7_isKind_1 : decode cX7_isKind 1 = .ok (.i2l, 1) := by decide +kernel
theorem dX7_isKind_2 : decode cX7_isKind 2 = .ok (.lconst 0, 1) := by decide +kernel
theorem dX7_isKind_3 : decode cX7_isKind 3 = .ok (.ldc2_w 81, 3) := by decide +kernel
theorem dX7_isKind_6 : decode cX7_isKind 6 = .ok (.invokestatic 55, 3) := by decide +kernel
theorem dX7_isKind_9 : decode cX7_isKind 9 = .ok (.ireturn, 1) := by decide +kernel
set_option maxRecDepth 20000 in
theorem ggX7_isMarked_X7_isPlace : GoodIn wsX7_isMarked wsX7_isPlace := goodIn_r _ [5, 6, 7, 4, 8, 9, 10, 11, 12] (by decide +kernel) (by decide +kernel)
set_option maxRecDepth 20000 in
theorem gX7_isMarked_X7_isPlace : GoodIn wsX7_isMarked (va_wsS RX7 83 yX7_isPlace wsX7_isPlace) := goodIn_app (goodIn_of _ (by decide +kernel)) ggX7_isMarked_X7_isPlace
set_option maxRecDepth 20000 in
theorem ggX7_isMarked_X7_tells : GoodIn wsX7_isMarked wsX7_tells := goodIn_r _ [16, 17, 18, 19, 4, 20, 9, 21, 22, 23, 24, 25, 1, 26, 27, 28, 29, 30, 31, 32, 33, 10, 11, 12, 34, 35, 36, 37, 38, 39, 40, 41, 42, 43, 44, 45, 46, 47, 48, 49, 50, 51, 52, 53, 54, 55, 56, 57, 58, 59, 60, 61, 62, 63, 64, 65, 66, 67] (by decide +kernel) (by decide +kernel)
set_option maxRecDepth 20000 in
theorem gX7_isMarked_X7_tells : GoodIn wsX7_isMarked (wsV RX7 87 RX7 yX7_tells wsX7_tells) := goodIn_app (goodIn_of _ (by decide +kernel)) ggX7_isMarked_X7_tells
theorem dX7_isMarked_0 : decode cX7_isMarked 0 = .ok (.iconst 0, 1) := by decide +kernel
theorem dX7_isMarked_1 : decode cX7_isMarked 1 = .ok (.istore_n 3, 1) := by decide +kernel
theorem dX7_isMarked_2 : decode cX7_isMarked 2 = .ok (.iconst 0, 1) := by decide +kernel
theorem dX7_isMarked_3 : decode cX7_isMarked 3 = .ok (.istore 4, 2) := by decide +kernel
theorem dX7_isMarked_5 : decode cX7_isMarked 5 = .ok (.iload 4, 2) := by decide +kernel
theorem dX7_isMarked_7 : decode cX7_isMarked 7 = .ok (.aload_n 0, 1) := by decide +kernel
theorem dX7_isMarked_8 : decode cX7_isMarked 8 = .ok (.getfield 11, 3) := by decide +kernel
theorem dX7_isMarked_11 : decode cX7_isMarked 11 = .ok (.iconst 4, 1) := by decide +kernel
theorem dX7_isMarked_12 : decode cX7_isMarked 12 = .ok (.iaload, 1) := by decide +kernel
theorem dX7_isMarked_13 : decode cX7_isMarked 13 = .ok (.if_icmp .ge 57, 3) := by decide +kernel
theorem dX7_isMarked_16 : decode cX7_isMarked 16 = .ok (.iload_n 1, 1) := by decide +kernel
theorem dX7_isMarked_17 : decode cX7_isMarked 17 = .ok (.iload_n 2, 1) := by decide +kernel
theorem dX7_isMarked_18 : decode cX7_isMarked 18 = .ok (.invokestatic 83, 3) := by decide +kernel
theorem dX7_isMarked_21 : decode cX7_isMarked 21 = .ok (.ifCond .eq 49, 3) := by decide +kernel
theorem dX7_isMarked_24 : decode cX7_isMarked 24 = .ok (.iload_n 3, 1) := by decide +kernel
theorem dX7_isMarked_25 : decode cX7_isMarked 25 = .ok (.aload_n 0, 1) := by decide +kernel
theorem dX7_isMarked_26 : decode cX7_isMarked 26 = .ok (.aload_n 0, 1) := by decide +kernel
theorem dX7_isMarked_27 : decode cX7_isMarked 27 = .ok (.getfield 11, 3) := by decide +kernel
theorem dX7_isMarked_30 : decode cX7_isMarked 30 = .ok (.iconst 5, 1) := by decide +kernel
theorem dX7_isMarked_31 : decode cX7_isMarked 31 = .ok (.iconst 2, 1) := by decide +kernel
theorem dX7_isMarked_32 : decode cX7_isMarked 32 = .ok (.iload 4, 2) := by decide +kernel
theorem dX7_isMarked_34 : decode cX7_isMarked 34 = .ok (.imul, 1) := by decide +kernel
theorem dX7_isMarked_35 : decode cX7_isMarked 35 = .ok (.iadd, 1) := by decide +kernel
theorem dX7_isMarked_36 : decode cX7_isMarked 36 = .ok (.iaload, 1) := by decide +kernel
theorem dX7_isMarked_37 : decode cX7_isMarked 37 = .ok (.iload_n 1, 1) := by decide +kernel
theorem dX7_isMarked_38 : decode cX7_isMarked 38 = .ok (.iload_n 2, 1) := by decide +kernel
theorem dX7_isMarked_39 : decode cX7_isMarked 39 = .ok (.invokevirtual 87, 3) := by decide +kernel
theorem dX7_isMarked_42 : decode cX7_isMarked 42 = .ok (.aload_n 0, 1) := by decide +kernel
theorem dX7_isMarked_43 : decode cX7_isMarked 43 = .ok (.getfield 11, 3) := by decide +kernel
theorem dX7_isMarked_46 : decode cX7_isMarked 46 = .ok (.bipush 6, 2) := by decide +kernel
theorem dX7_isMarked_48 : decode cX7_isMarked 48 = .ok (.iconst 2, 1) := by decide +kernel
theorem dX7_isMarked_49 : decode cX7_isMarked 49 = .ok (.iload 4, 2) := by decide +kernel
theorem dX7_isMarked_51 : decode cX7_isMarked 51 = .ok (.imul, 1) := by decide +kernel
theorem dX7_isMarked_52 : decode cX7_isMarked 52 = .ok (.iadd, 1) := by decide +kernel
theorem dX7_isMarked_53 : decode cX7_isMarked 53 = .ok (.iaload, 1) := by decide +kernel
theorem dX7_isMarked_54 : decode cX7_isMarked 54 = .ok (.if_icmp .ne 7, 3) := by decide +kernel
theorem dX7_isMarked_57 : decode cX7_isMarked 57 = .ok (.iconst 1, 1) := by decide +kernel
theorem dX7_isMarked_58 : decode cX7_isMarked 58 = .ok (.goto 4, 3) := by decide +kernel
theorem dX7_isMarked_61 : decode cX7_isMarked 61 = .ok (.iconst 0, 1) := by decide +kernel
theorem dX7_isMarked_62 : decode cX7_isMarked 62 = .ok (.ior, 1) := by decide +kernel
theorem dX7_isMarked_63 : decode cX7_isMarked 63 = .ok (.istore_n 3, 1) := by decide +kernel
theorem dX7_isMarked_64 : decode cX7_isMarked 64 = .ok (.iinc 4 1, 3) := by decide +kernel
theorem dX7_isMarked_67 : decode cX7_isMarked 67 = .ok (.goto (-62), 3) := by decide +kernel
theorem dX7_isMarked_70 : decode cX7_isMarked 70 = .ok (.iload_n 3, 1) := by decide +kernel
theorem dX7_isMarked_71 : decode cX7_isMarked 71 = .ok (.ireturn, 1) := by decide +kernel
set_option maxRecDepth 20000 in
theorem ggX7_prime_X7_isPrime : GoodIn wsX7_prime wsX7_isPrime := goodIn_r _ [5] (by decide +kernel) (by decide +kernel)
set_option maxRecDepth 20000 in
theorem gX7_prime_X7_isPrime : GoodIn wsX7_prime (va_wsS RX7 91 yX7_isPrime wsX7_isPrime) := goodIn_app (goodIn_of _ (by decide +kernel)) ggX7_prime_X7_isPrime
theorem dX7_prime_0 : decode cX7_prime 0 = .ok (.iload_n 1, 1) := by decide +kernel
theorem dX7_prime_1 : decode cX7_prime 1 = .ok (.invokestatic 91, 3) := by decide +kernel
theorem dX7_prime_4 : decode cX7_prime 4 = .ok (.ifCond .ne 6, 3) := by decide +kernel
theorem dX7_prime_7 : decode cX7_prime 7 = .ok (.bipush (-2), 2) := by decide +kernel
theorem dX7_prime_9 : decode cX7_prime 9 = .ok (.ireturn, 1) := by decide +kernel
theorem dX7_prime_10 : decode cX7_prime 10 = .ok (.aload_n 0, 1) := by decide +kernel
theorem dX7_prime_11 : decode cX7_prime 11 = .ok (.getfield 11, 3) := by decide +kernel
theorem dX7_prime_14 : decode cX7_prime 14 = .ok (.iconst 0, 1) := by decide +kernel
theorem dX7_prime_15 : decode cX7_prime 15 = .ok (.iaload, 1) := by decide +kernel
theorem dX7_prime_16 : decode cX7_prime 16 = .ok (.istore_n 2, 1) := by decide +kernel
theorem dX7_prime_17 : decode cX7_prime 17 = .ok (.aload_n 0, 1) := by decide +kernel
theorem dX7_prime_18 : decode cX7_prime 18 = .ok (.getfield 11, 3) := by decide +kernel
theorem dX7_prime_21 : decode cX7_prime 21 = .ok (.iconst 0, 1) := by decide +kernel
theorem dX7_prime_22 : decode cX7_prime 22 = .ok (.iload_n 1, 1) := by decide +kernel
theorem dX7_prime_23 : decode cX7_prime 23 = .ok (.iastore, 1) := by decide +kernel
theorem dX7_prime_24 : decode cX7_prime 24 = .ok (.iload_n 2, 1) := by decide +kernel
theorem dX7_prime_25 : decode cX7_prime 25 = .ok (.ireturn, 1) := by decide +kernel
set_option maxRecDepth 20000 in
theorem ggX7_power__X7_isIn : GoodIn wsX7_power_ wsX7_isIn := goodIn_r _ [6] (by decide +kernel) (by decide +kernel)
set_option maxRecDepth 20000 in
theorem gX7_power__X7_isIn : GoodIn wsX7_power_ (va_wsS RX7 55 yX7_isIn wsX7_isIn) := goodIn_app (goodIn_of _ (by decide +kernel)) ggX7_power__X7_isIn
theorem dX7_power__0 : decode cX7_power_ 0 = .ok (.iload_n 1, 1) := by decide +kernel
theorem dX7_power__1 : decode cX7_power_ 1 = .ok (.i2l, 1) := by decide +kernel
theorem dX7_power__2 : decode cX7_power_ 2 = .ok (.lconst 1, 1) := by decide +kernel
theorem dX7_power__3 : decode cX7_power_ 3 = .ok (.ldc2_w 81, 3) := by decide +kernel
theorem dX7_power__6 : decode cX7_power_ 6 = .ok (.invokestatic 55, 3) := by decide +kernel
theorem dX7_power__9 : decode cX7_power_ 9 = .ok (.ifCond .ne 6, 3) := by decide +kernel
theorem dX7_power__12 : decode cX7_power_ 12 = .ok (.bipush (-2), 2) := by decide +kernel
theorem dX7_power__14 : decode cX7_power_ 14 = .ok (.ireturn, 1) := by decide +kernel
theorem dX7_power__15 : decode cX7_power_ 15 = .ok (.aload_n 0, 1) := by decide +kernel
theorem dX7_power__16 : decode cX7_power_ 16 = .ok (.getfield 11, 3) := by decide +kernel
theorem dX7_power__19 : decode cX7_power_ 19 = .ok (.iconst 1, 1) := by decide +kernel
theorem dX7_power__20 : decode cX7_power_ 20 = .ok (.iaload, 1) := by decide +kernel
theorem dX7_power__21 : decode cX7_power_ 21 = .ok (.istore_n 2, 1) := by decide +kernel
theorem dX7_power__22 : decode cX7_power_ 22 = .ok (.aload_n 0, 1) := by decide +kernel
theorem dX7_power__23 : decode cX7_power_ 23 = .ok (.getfield 11, 3) := by decide +kernel
theorem dX7_power__26 : decode cX7_power_ 26 = .ok (.iconst 1, 1) := by decide +kernel
theorem dX7_power__27 : decode cX7_power_ 27 = .ok (.iload_n 1, 1) := by decide +kernel
theorem dX7_power__28 : decode cX7_power_ 28 = .ok (.iastore, 1) := by decide +kernel
theorem dX7_power__29 : decode cX7_power_ 29 = .ok (.iload_n 2, 1) := by decide +kernel
theorem dX7_power__30 : decode cX7_power_ 30 = .ok (.ireturn, 1) := by decide +kernel
set_option maxRecDepth 20000 in
theorem ggX7_mark_X7_isKind : GoodIn wsX7_mark wsX7_isKind := goodIn_r _ [6, 7, 8, 9, 5, 10] (by decide +kernel) (by decide +kernel)
set_option maxRecDepth 20000 in
theorem gX7_mark_X7_isKind : GoodIn wsX7_mark (va_wsS RX7 94 yX7_isKind wsX7_isKind) := goodIn_app (goodIn_of _ (by decide +kernel)) ggX7_mark_X7_isKind
set_option maxRecDepth 20000 in
theorem ggX7_mark_X7_isIn : GoodIn wsX7_mark wsX7_isIn := goodIn_r _ [10] (by decide +kernel) (by decide +kernel)
set_option maxRecDepth 20000 in
theorem gX7_mark_X7_isIn : GoodIn wsX7_mark (va_wsS RX7 55 yX7_isIn wsX7_isIn) := goodIn_app (goodIn_of _ (by decide +kernel)) ggX7_mark_X7_isIn
theorem dX7_mark_0 : decode cX7_mark 0 = .ok (.iload_n 1, 1) := by decide +kernel
theorem dX7_mark_1 : decode cX7_mark 1 = .ok (.invokestatic 94, 3) := by decide +kernel
theorem dX7_mark_4 : decode cX7_mark 4 = .ok (.ifCond .ne 5, 3) := by decide +kernel
theorem dX7_mark_7 : decode cX7_mark 7 = .ok (.iconst (-1), 1) := by decide +kernel
theorem dX7_mark_8 : decode cX7_mark 8 = .ok (.ireturn, 1) := by decide +kernel
theorem dX7_mark_9 : decode cX7_mark 9 = .ok (.iload_n 2, 1) := by decide +kernel
theorem dX7_mark_10 : decode cX7_mark 10 = .ok (.i2l, 1) := by decide +kernel
theorem dX7_mark_11 : decode cX7_mark 11 = .ok (.lconst 0, 1) := by decide +kernel
theorem dX7_mark_12 : decode cX7_mark 12 = .ok (.ldc2_w 97, 3) := by decide +kernel
theorem dX7_mark_15 : decode cX7_mark 15 = .ok (.invokestatic 55, 3) := by decide +kernel
theorem dX7_mark_18 : decode cX7_mark 18 = .ok (.ifCond .ne 6, 3) := by decide +kernel
theorem dX7_mark_21 : decode cX7_mark 21 = .ok (.bipush (-2), 2) := by decide +kernel
theorem dX7_mark_23 : decode cX7_mark 23 = .ok (.ireturn, 1) := by decide +kernel
theorem dX7_mark_24 : decode cX7_mark 24 = .ok (.aload_n 0, 1) := by decide +kernel
theorem dX7_mark_25 : decode cX7_mark 25 = .ok (.getfield 11, 3) := by decide +kernel
theorem dX7_mark_28 : decode cX7_mark 28 = .ok (.iconst 4, 1) := by decide +kernel
theorem dX7_mark_29 : decode cX7_mark 29 = .ok (.iaload, 1) := by decide +kernel
theorem dX7_mark_30 : decode cX7_mark 30 = .ok (.bipush 6, 2) := by decide +kernel
theorem dX7_mark_32 : decode cX7_mark 32 = .ok (.if_icmp .ne 6, 3) := by decide +kernel
theorem dX7_mark_35 : decode cX7_mark 35 = .ok (.bipush (-4), 2) := by decide +kernel
theorem dX7_mark_37 : decode cX7_mark 37 = .ok (.ireturn, 1) := by decide +kernel
theorem dX7_mark_38 : decode cX7_mark 38 = .ok (.aload_n 0, 1) := by decide +kernel
theorem dX7_mark_39 : decode cX7_mark 39 = .ok (.getfield 11, 3) := by decide +kernel
theorem dX7_mark_42 : decode cX7_mark 42 = .ok (.iconst 5, 1) := by decide +kernel
theorem dX7_mark_43 : decode cX7_mark 43 = .ok (.iconst 2, 1) := by decide +kernel
theorem dX7_mark_44 : decode cX7_mark 44 = .ok (.aload_n 0, 1) := by decide +kernel
theorem dX7_mark_45 : decode cX7_mark 45 = .ok (.getfield 11, 3) := by decide +kernel
theorem dX7_mark_48 : decode cX7_mark 48 = .ok (.iconst 4, 1) := by decide +kernel
theorem dX7_mark_49 : decode cX7_mark 49 = .ok (.iaload, 1) := by decide +kernel
theorem dX7_mark_50 : decode cX7_mark 50 = .ok (.imul, 1) := by decide +kernel
theorem dX7_mark_51 : decode cX7_mark 51 = .ok (.iadd, 1) := by decide +kernel
theorem dX7_mark_52 : decode cX7_mark 52 = .ok (.iload_n 1, 1) := by decide +kernel
theorem dX7_mark_53 : decode cX7_mark 53 = .ok (.iastore, 1) := by decide +kernel
theorem dX7_mark_54 : decode cX7_mark 54 = .ok (.aload_n 0, 1) := by decide +kernel
theorem dX7_mark_55 : decode cX7_mark 55 = .ok (.getfield 11, 3) := by decide +kernel
theorem dX7_mark_58 : decode cX7_mark 58 = .ok (.bipush 6, 2) := by decide +kernel
theorem dX7_mark_60 : decode cX7_mark 60 = .ok (.iconst 2, 1) := by decide +kernel
theorem dX7_mark_61 : decode cX7_mark 61 = .ok (.aload_n 0, 1) := by decide +kernel
theorem dX7_mark_62 : decode cX7_mark 62 = .ok (.getfield 11, 3) := by decide +kernel
theorem dX7_mark_65 : decode cX7_mark 65 = .ok (.iconst 4, 1) := by decide +kernel
theorem dX7_mark_66 : decode cX7_mark 66 = .ok (.iaload, 1) := by decide +kernel
theorem dX7_mark_67 : decode cX7_mark 67 = .ok (.imul, 1) := by decide +kernel
theorem dX7_mark_68 : decode cX7_mark 68 = .ok (.iadd, 1) := by decide +kernel
theorem dX7_mark_69 : decode cX7_mark 69 = .ok (.iload_n 2, 1) := by decide +kernel
theorem dX7_mark_70 : decode cX7_mark 70 = .ok (.iastore, 1) := by decide +kernel
theorem dX7_mark_71 : decode cX7_mark 71 = .ok (.aload_n 0, 1) := by decide +kernel
theorem dX7_mark_72 : decode cX7_mark 72 = .ok (.getfield 11, 3) := by decide +kernel
theorem dX7_mark_75 : decode cX7_mark 75 = .ok (.iconst 4, 1) := by decide +kernel
theorem dX7_mark_76 : decode cX7_mark 76 = .ok (.dup2, 1) := by decide +kernel
theorem dX7_mark_77 : decode cX7_mark 77 = .ok (.iaload, 1) := by decide +kernel
theorem dX7_mark_78 : decode cX7_mark 78 = .ok (.iconst 1, 1) := by decide +kernel
theorem dX7_mark_79 : decode cX7_mark 79 = .ok (.iadd, 1) := by decide +kernel
theorem dX7_mark_80 : decode cX7_mark 80 = .ok (.iastore, 1) := by decide +kernel
theorem dX7_mark_81 : decode cX7_mark 81 = .ok (.aload_n 0, 1) := by decide +kernel
theorem dX7_mark_82 : decode cX7_mark 82 = .ok (.getfield 11, 3) := by decide +kernel
theorem dX7_mark_85 : decode cX7_mark 85 = .ok (.iconst 4, 1) := by decide +kernel
theorem dX7_mark_86 : decode cX7_mark 86 = .ok (.iaload, 1) := by decide +kernel
theorem dX7_mark_87 : decode cX7_mark 87 = .ok (.ireturn, 1) := by decide +kernel
theorem dX7_clear_0 : decode cX7_clear 0 = .ok (.aload_n 0, 1) := by decide +kernel
theorem dX7_clear_1 : decode cX7_clear 1 = .ok (.getfield 11, 3) := by decide +kernel
theorem dX7_clear_4 : decode cX7_clear 4 = .ok (.iconst 4, 1) := by decide +kernel
theorem dX7_clear_5 : decode cX7_clear 5 = .ok (.iaload, 1) := by decide +kernel
theorem dX7_clear_6 : decode cX7_clear 6 = .ok (.istore_n 1, 1) := by decide +kernel
theorem dX7_clear_7 : decode cX7_clear 7 = .ok (.aload_n 0, 1) := by decide +kernel
theorem dX7_clear_8 : decode cX7_clear 8 = .ok (.getfield 11, 3) := by decide +kernel
theorem dX7_clear_11 : decode cX7_clear 11 = .ok (.iconst 4, 1) := by decide +kernel
theorem dX7_clear_12 : decode cX7_clear 12 = .ok (.iconst 0, 1) := by decide +kernel
theorem dX7_clear_13 : decode cX7_clear 13 = .ok (.iastore, 1) := by decide +kernel
theorem dX7_clear_14 : decode cX7_clear 14 = .ok (.iload_n 1, 1) := by decide +kernel
theorem dX7_clear_15 : decode cX7_clear 15 = .ok (.ireturn, 1) := by decide +kernel
set_option maxRecDepth 20000 in
theorem ggX7_window_X7_isRow : GoodIn wsX7_window wsX7_isRow := goodIn_r _ [5, 6, 7, 8, 4, 9] (by decide +kernel) (by decide +kernel)
set_option maxRecDepth 20000 in
theorem gX7_window_X7_isRow : GoodIn wsX7_window (va_wsS RX7 77 yX7_isRow wsX7_isRow) := goodIn_app (goodIn_of _ (by decide +kernel)) ggX7_window_X7_isRow
theorem dX7_window_0 : decode cX7_window 0 = .ok (.iload_n 1, 1) := by decide +kernel
theorem dX7_window_1 : decode cX7_window 1 = .ok (.invokestatic 77, 3) := by decide +kernel
theorem dX7_window_4 : decode cX7_window 4 = .ok (.ifCond .eq 10, 3) := by decide +kernel
theorem dX7_window_7 : decode cX7_window 7 = .ok (.iload_n 2, 1) := by decide +kernel
theorem dX7_window_8 : decode cX7_window 8 = .ok (.invokestatic 77, 3) := by decide +kernel
theorem dX7_window_11 : decode cX7_window 11 = .ok (.ifCond .ne 6, 3) := by decide +kernel
theorem dX7_window_14 : decode cX7_window 14 = .ok (.bipush (-2), 2) := by decide +kernel
theorem dX7_window_16 : decode cX7_window 16 = .ok (.ireturn, 1) := by decide +kernel
theorem dX7_window_17 : decode cX7_window 17 = .ok (.sipush 1000, 3) := by decide +kernel
theorem dX7_window_20 : decode cX7_window 20 = .ok (.aload_n 0, 1) := by decide +kernel
theorem dX7_window_21 : decode cX7_window 21 = .ok (.getfield 11, 3) := by decide +kernel
theorem dX7_window_24 : decode cX7_window 24 = .ok (.iconst 2, 1) := by decide +kernel
theorem dX7_window_25 : decode cX7_window 25 = .ok (.iaload, 1) := by decide +kernel
theorem dX7_window_26 : decode cX7_window 26 = .ok (.imul, 1) := by decide +kernel
theorem dX7_window_27 : decode cX7_window 27 = .ok (.aload_n 0, 1) := by decide +kernel
theorem dX7_window_28 : decode cX7_window 28 = .ok (.getfield 11, 3) := by decide +kernel
theorem dX7_window_31 : decode cX7_window 31 = .ok (.iconst 3, 1) := by decide +kernel
theorem dX7_window_32 : decode cX7_window 32 = .ok (.iaload, 1) := by decide +kernel
theorem dX7_window_33 : decode cX7_window 33 = .ok (.iadd, 1) := by decide +kernel
theorem dX7_window_34 : decode cX7_window 34 = .ok (.istore_n 3, 1) := by decide +kernel
theorem dX7_window_35 : decode cX7_window 35 = .ok (.aload_n 0, 1) := by decide +kernel
theorem dX7_window_36 : decode cX7_window 36 = .ok (.getfield 11, 3) := by decide +kernel
theorem dX7_window_39 : decode cX7_window 39 = .ok (.iconst 2, 1) := by decide +kernel
theorem dX7_window_40 : decode cX7_window 40 = .ok (.iload_n 1, 1) := by decide +kernel
theorem dX7_window_41 : decode cX7_window 41 = .ok (.iastore, 1) := by decide +kernel
theorem dX7_window_42 : decode cX7_window 42 = .ok (.aload_n 0, 1) := by decide +kernel
theorem dX7_window_43 : decode cX7_window 43 = .ok (.getfield 11, 3) := by decide +kernel
theorem dX7_window_46 : decode cX7_window 46 = .ok (.iconst 3, 1) := by decide +kernel
theorem dX7_window_47 : decode cX7_window 47 = .ok (.iload_n 2, 1) := by decide +kernel
theorem dX7_window_48 : decode cX7_window 48 = .ok (.iastore, 1) := by decide +kernel
theorem dX7_window_49 : decode cX7_window 49 = .ok (.iload_n 3, 1) := by decide +kernel
theorem dX7_window_50 : decode cX7_window 50 = .ok (.ireturn, 1) := by decide +kernel
set_option maxRecDepth 20000 in
theorem ggX7_feed_X7_isIn : GoodIn wsX7_feed wsX7_isIn := goodIn_r _ [7] (by decide +kernel) (by decide +kernel)
set_option maxRecDepth 20000 in
theorem gX7_feed_X7_isIn : GoodIn wsX7_feed (va_wsS RX7 55 yX7_isIn wsX7_isIn) := goodIn_app (goodIn_of _ (by decide +kernel)) ggX7_feed_X7_isIn
theorem dX7_feed_0 : decode cX7_feed 0 = .ok (.iload_n 1, 1) := by decide +kernel
theorem dX7_feed_1 : decode cX7_feed 1 = .ok (.i2l, 1) := by decide +kernel
theorem dX7_feed_2 : decode cX7_feed 2 = .ok (.lconst 0, 1) := by decide +kernel
theorem dX7_feed_3 : decode cX7_feed 3 = .ok (.ldc2_w 53, 3) := by decide +kernel
theorem dX7_feed_6 : decode cX7_feed 6 = .ok (.invokestatic 55, 3) := by decide +kernel
theorem dX7_feed_9 : decode cX7_feed 9 = .ok (.ifCond .ne 6, 3) := by decide +kernel
theorem dX7_feed_12 : decode cX7_feed 12 = .ok (.bipush (-2), 2) := by decide +kernel
theorem dX7_feed_14 : decode cX7_feed 14 = .ok (.ireturn, 1) := by decide +kernel
theorem dX7_feed_15 : decode cX7_feed 15 = .ok (.aload_n 0, 1) := by decide +kernel
theorem dX7_feed_16 : decode cX7_feed 16 = .ok (.getfield 99, 3) := by decide +kernel
theorem dX7_feed_19 : decode cX7_feed 19 = .ok (.bipush 100, 2) := by decide +kernel
theorem dX7_feed_21 : decode cX7_feed 21 = .ok (.if_icmp .ne 6, 3) := by decide +kernel
theorem dX7_feed_24 : decode cX7_feed 24 = .ok (.bipush (-4), 2) := by decide +kernel
theorem dX7_feed_26 : decode cX7_feed 26 = .ok (.ireturn, 1) := by decide +kernel
theorem dX7_feed_27 : decode cX7_feed 27 = .ok (.aload_n 0, 1) := by decide +kernel
theorem dX7_feed_28 : decode cX7_feed 28 = .ok (.getfield 24, 3) := by decide +kernel
theorem dX7_feed_31 : decode cX7_feed 31 = .ok (.aload_n 0, 1) := by decide +kernel
theorem dX7_feed_32 : decode cX7_feed 32 = .ok (.getfield 99, 3) := by decide +kernel
theorem dX7_feed_35 : decode cX7_feed 35 = .ok (.iload_n 1, 1) := by decide +kernel
theorem dX7_feed_36 : decode cX7_feed 36 = .ok (.iastore, 1) := by decide +kernel
theorem dX7_feed_37 : decode cX7_feed 37 = .ok (.aload_n 0, 1) := by decide +kernel
theorem dX7_feed_38 : decode cX7_feed 38 = .ok (.dup, 1) := by decide +kernel
theorem dX7_feed_39 : decode cX7_feed 39 = .ok (.getfield 99, 3) := by decide +kernel
theorem dX7_feed_42 : decode cX7_feed 42 = .ok (.iconst 1, 1) := by decide +kernel
theorem dX7_feed_43 : decode cX7_feed 43 = .ok (.iadd, 1) := by decide +kernel
theorem dX7_feed_44 : decode cX7_feed 44 = .ok (.putfield 99, 3) := by decide +kernel
theorem dX7_feed_47 : decode cX7_feed 47 = .ok (.aload_n 0, 1) := by decide +kernel
theorem dX7_feed_48 : decode cX7_feed 48 = .ok (.getfield 99, 3) := by decide +kernel
theorem dX7_feed_51 : decode cX7_feed 51 = .ok (.ireturn, 1) := by decide +kernel
theorem dX7_here_0 : decode cX7_here 0 = .ok (.aload_n 0, 1) := by decide +kernel
theorem dX7_here_1 : decode cX7_here 1 = .ok (.getfield 102, 3) := by decide +kernel
theorem dX7_here_4 : decode cX7_here 4 = .ok (.aload_n 0, 1) := by decide +kernel
theorem dX7_here_5 : decode cX7_here 5 = .ok (.getfield 99, 3) := by decide +kernel
theorem dX7_here_8 : decode cX7_here 8 = .ok (.if_icmp .ge 15, 3) := by decide +kernel
theorem dX7_here_11 : decode cX7_here 11 = .ok (.aload_n 0, 1) := by decide +kernel
theorem dX7_here_12 : decode cX7_here 12 = .ok (.getfield 24, 3) := by decide +kernel
theorem dX7_here_15 : decode cX7_here 15 = .ok (.aload_n 0, 1) := by decide +kernel
theorem dX7_here_16 : decode cX7_here 16 = .ok (.getfield 102, 3) := by decide +kernel
theorem dX7_here_19 : decode cX7_here 19 = .ok (.iaload, 1) := by decide +kernel
theorem dX7_here_20 : decode cX7_here 20 = .ok (.goto 4, 3) := by decide +kernel
theorem dX7_here_23 : decode cX7_here 23 = .ok (.iconst (-1), 1) := by decide +kernel
theorem dX7_here_24 : decode cX7_here 24 = .ok (.ireturn, 1) := by decide +kernel
set_option maxRecDepth 20000 in
theorem ggX7_readsNumber_X7_here : GoodIn wsX7_readsNumber wsX7_here := goodIn_r _ [8, 3, 9, 10, 14, 15, 16, 17, 18, 19, 20, 21, 22, 23, 24, 25, 26, 27, 28] (by decide +kernel) (by decide +kernel)
set_option maxRecDepth 20000 in
theorem gX7_readsNumber_X7_here : GoodIn wsX7_readsNumber (wsV RX7 105 RX7 yX7_here wsX7_here) := goodIn_app (goodIn_of _ (by decide +kernel)) ggX7_readsNumber_X7_here
set_option maxRecDepth 20000 in
theorem ggX7_readsNumber_X7_isIn : GoodIn wsX7_readsNumber wsX7_isIn := goodIn_r _ [13] (by decide +kernel) (by decide +kernel)
set_option maxRecDepth 20000 in
theorem gX7_readsNumber_X7_isIn : GoodIn wsX7_readsNumber (va_wsS RX7 55 yX7_isIn wsX7_isIn) := goodIn_app (goodIn_of _ (by decide +kernel)) ggX7_readsNumber_X7_isIn
theorem dX7_readsNumber_0 : decode cX7_readsNumber 0 = .ok (.iconst (-1), 1) := by decide +kernel
theorem dX7_readsNumber_1 : decode cX7_readsNumber 1 = .ok (.istore_n 2, 1) := by decide +kernel
theorem dX7_readsNumber_2 : decode cX7_readsNumber 2 = .ok (.iconst 0, 1) := by decide +kernel
theorem dX7_readsNumber_3 : decode cX7_readsNumber 3 = .ok (.istore_n 3, 1) := by decide +kernel
theorem dX7_readsNumber_4 : decode cX7_readsNumber 4 = .ok (.iload_n 3, 1) := by decide +kernel
theorem dX7_readsNumber_5 : decode cX7_readsNumber 5 = .ok (.iload_n 1, 1) := by decide +kernel
theorem dX7_readsNumber_6 : decode cX7_readsNumber 6 = .ok (.if_icmp .ge 57, 3) := by decide +kernel
theorem dX7_readsNumber_9 : decode cX7_readsNumber 9 = .ok (.aload_n 0, 1) := by decide +kernel
theorem dX7_readsNumber_10 : decode cX7_readsNumber 10 = .ok (.invokevirtual 105, 3) := by decide +kernel
theorem dX7_readsNumber_13 : decode cX7_readsNumber 13 = .ok (.i2l, 1) := by decide +kernel
theorem dX7_readsNumber_14 : decode cX7_readsNumber 14 = .ok (.ldc2_w 108, 3) := by decide +kernel
theorem dX7_readsNumber_17 : decode cX7_readsNumber 17 = .ok (.ldc2_w 110, 3) := by decide +kernel
theorem dX7_readsNumber_20 : decode cX7_readsNumber 20 = .ok (.invokestatic 55, 3) := by decide +kernel
theorem dX7_readsNumber_23 : decode cX7_readsNumber 23 = .ok (.ifCond .eq 40, 3) := by decide +kernel
theorem dX7_readsNumber_26 : decode cX7_readsNumber 26 = .ok (.iload_n 3, 1) := by decide +kernel
theorem dX7_readsNumber_27 : decode cX7_readsNumber 27 = .ok (.ifCond .ne 7, 3) := by decide +kernel
theorem dX7_readsNumber_30 : decode cX7_readsNumber 30 = .ok (.iconst 0, 1) := by decide +kernel
theorem dX7_readsNumber_31 : decode cX7_readsNumber 31 = .ok (.goto 7, 3) := by decide +kernel
theorem dX7_readsNumber_34 : decode cX7_readsNumber 34 = .ok (.bipush 10, 2) := by decide +kernel
theorem dX7_readsNumber_36 : decode cX7_readsNumber 36 = .ok (.iload_n 2, 1) := by decide +kernel
theorem dX7_readsNumber_37 : decode cX7_readsNumber 37 = .ok (.imul, 1) := by decide +kernel
theorem dX7_readsNumber_38 : decode cX7_readsNumber 38 = .ok (.aload_n 0, 1) := by decide +kernel
theorem dX7_readsNumber_39 : decode cX7_readsNumber 39 = .ok (.invokevirtual 105, 3) := by decide +kernel
theorem dX7_readsNumber_42 : decode cX7_readsNumber 42 = .ok (.iadd, 1) := by decide +kernel
theorem dX7_readsNumber_43 : decode cX7_readsNumber 43 = .ok (.bipush 48, 2) := by decide +kernel
theorem dX7_readsNumber_45 : decode cX7_readsNumber 45 = .ok (.isub, 1) := by decide +kernel
theorem dX7_readsNumber_46 : decode cX7_readsNumber 46 = .ok (.istore_n 2, 1) := by decide +kernel
theorem dX7_readsNumber_47 : decode cX7_readsNumber 47 = .ok (.aload_n 0, 1) := by decide +kernel
theorem dX7_readsNumber_48 : decode cX7_readsNumber 48 = .ok (.dup, 1) := by decide +kernel
theorem dX7_readsNumber_49 : decode cX7_readsNumber 49 = .ok (.getfield 102, 3) := by decide +kernel
theorem dX7_readsNumber_52 : decode cX7_readsNumber 52 = .ok (.iconst 1, 1) := by decide +kernel
theorem dX7_readsNumber_53 : decode cX7_readsNumber 53 = .ok (.iadd, 1) := by decide +kernel
theorem dX7_readsNumber_54 : decode cX7_readsNumber 54 = .ok (.putfield 102, 3) := by decide +kernel
theorem dX7_readsNumber_57 : decode cX7_readsNumber 57 = .ok (.iinc 3 1, 3) := by decide +kernel
theorem dX7_readsNumber_60 : decode cX7_readsNumber 60 = .ok (.goto (-56), 3) := by decide +kernel
theorem dX7_readsNumber_63 : decode cX7_readsNumber 63 = .ok (.iload_n 2, 1) := by decide +kernel
theorem dX7_readsNumber_64 : decode cX7_readsNumber 64 = .ok (.ireturn, 1) := by decide +kernel
set_option maxRecDepth 20000 in
theorem ggX7_readsClause_X7_here : GoodIn wsX7_readsClause wsX7_here := goodIn_r _ [9, 2, 10, 11, 21, 22, 23, 24, 25, 26, 27, 28, 29, 30, 31, 32, 33, 34, 35] (by decide +kernel) (by decide +kernel)
set_option maxRecDepth 20000 in
theorem gX7_readsClause_X7_here : GoodIn wsX7_readsClause (wsV RX7 105 RX7 yX7_here wsX7_here) := goodIn_app (goodIn_of _ (by decide +kernel)) ggX7_readsClause_X7_here
set_option maxRecDepth 20000 in
theorem ggX7_readsClause_X7_readsNumber : GoodIn wsX7_readsClause wsX7_readsNumber := goodIn_r _ [15, 16, 17, 2, 5, 6, 7, 8, 9, 10, 11, 18, 19, 20, 21, 22, 23, 24, 25, 26, 27, 28, 29, 30, 31, 32, 33, 34, 35] (by decide +kernel) (by decide +kernel)
set_option maxRecDepth 20000 in
theorem gX7_readsClause_X7_readsNumber : GoodIn wsX7_readsClause (wsV RX7 115 RX7 yX7_readsNumber wsX7_readsNumber) := goodIn_app (goodIn_of _ (by decide +kernel)) ggX7_readsClause_X7_readsNumber
theorem dX7_readsClause_0 : decode cX7_readsClause 0 = .ok (.aload_n 0, 1) := by decide +kernel
theorem dX7_readsClause_1 : decode cX7_readsClause 1 = .ok (.aload_n 0, 1) := by decide +kernel
theorem dX7_readsClause_2 : decode cX7_readsClause 2 = .ok (.invokevirtual 105, 3) := by decide +kernel
theorem dX7_readsClause_5 : decode cX7_readsClause 5 = .ok (.putfield 112, 3) := by decide +kernel
theorem dX7_readsClause_8 : decode cX7_readsClause 8 = .ok (.aload_n 0, 1) := by decide +kernel
theorem dX7_readsClause_9 : decode cX7_readsClause 9 = .ok (.getfield 112, 3) := by decide +kernel
theorem dX7_readsClause_12 : decode cX7_readsClause 12 = .ok (.bipush 112, 2) := by decide +kernel
theorem dX7_readsClause_14 : decode cX7_readsClause 14 = .ok (.if_icmp .eq 41, 3) := by decide +kernel
theorem dX7_readsClause_17 : decode cX7_readsClause 17 = .ok (.aload_n 0, 1) := by decide +kernel
theorem dX7_readsClause_18 : decode cX7_readsClause 18 = .ok (.getfield 112, 3) := by decide +kernel
theorem dX7_readsClause_21 : decode cX7_readsClause 21 = .ok (.bipush 101, 2) := by decide +kernel
theorem dX7_readsClause_23 : decode cX7_readsClause 23 = .ok (.if_icmp .eq 32, 3) := by decide +kernel
theorem dX7_readsClause_26 : decode cX7_readsClause 26 = .ok (.aload_n 0, 1) := by decide +kernel
theorem dX7_readsClause_27 : decode cX7_readsClause 27 = .ok (.getfield 112, 3) := by decide +kernel
theorem dX7_readsClause_30 : decode cX7_readsClause 30 = .ok (.bipush 109, 2) := by decide +kernel
theorem dX7_readsClause_32 : decode cX7_readsClause 32 = .ok (.if_icmp .eq 23, 3) := by decide +kernel
theorem dX7_readsClause_35 : decode cX7_readsClause 35 = .ok (.aload_n 0, 1) := by decide +kernel
theorem dX7_readsClause_36 : decode cX7_readsClause 36 = .ok (.getfield 112, 3) := by decide +kernel
theorem dX7_readsClause_39 : decode cX7_readsClause 39 = .ok (.bipush 120, 2) := by decide +kernel
theorem dX7_readsClause_41 : decode cX7_readsClause 41 = .ok (.if_icmp .eq 14, 3) := by decide +kernel
theorem dX7_readsClause_44 : decode cX7_readsClause 44 = .ok (.aload_n 0, 1) := by decide +kernel
theorem dX7_readsClause_45 : decode cX7_readsClause 45 = .ok (.getfield 112, 3) := by decide +kernel
theorem dX7_readsClause_48 : decode cX7_readsClause 48 = .ok (.bipush 119, 2) := by decide +kernel
theorem dX7_readsClause_50 : decode cX7_readsClause 50 = .ok (.if_icmp .eq 5, 3) := by decide +kernel
theorem dX7_readsClause_53 : decode cX7_readsClause 53 = .ok (.iconst 0, 1) := by decide +kernel
theorem dX7_readsClause_54 : decode cX7_readsClause 54 = .ok (.ireturn, 1) := by decide +kernel
theorem dX7_readsClause_55 : decode cX7_readsClause 55 = .ok (.aload_n 0, 1) := by decide +kernel
theorem dX7_readsClause_56 : decode cX7_readsClause 56 = .ok (.dup, 1) := by decide +kernel
theorem dX7_readsClause_57 : decode cX7_readsClause 57 = .ok (.getfield 102, 3) := by decide +kernel
theorem dX7_readsClause_60 : decode cX7_readsClause 60 = .ok (.iconst 1, 1) := by decide +kernel
theorem dX7_readsClause_61 : decode cX7_readsClause 61 = .ok (.iadd, 1) := by decide +kernel
theorem dX7_readsClause_62 : decode cX7_readsClause 62 = .ok (.putfield 102, 3) := by decide +kernel
theorem dX7_readsClause_65 : decode cX7_readsClause 65 = .ok (.aload_n 0, 1) := by decide +kernel
theorem dX7_readsClause_66 : decode cX7_readsClause 66 = .ok (.getfield 112, 3) := by decide +kernel
theorem dX7_readsClause_69 : decode cX7_readsClause 69 = .ok (.bipush 120, 2) := by decide +kernel
theorem dX7_readsClause_71 : decode cX7_readsClause 71 = .ok (.if_icmp .ne 5, 3) := by decide +kernel
theorem dX7_readsClause_74 : decode cX7_readsClause 74 = .ok (.iconst 1, 1) := by decide +kernel
theorem dX7_readsClause_75 : decode cX7_readsClause 75 = .ok (.ireturn, 1) := by decide +kernel
theorem dX7_readsClause_76 : decode cX7_readsClause 76 = .ok (.aload_n 0, 1) := by decide +kernel
theorem dX7_readsClause_77 : decode cX7_readsClause 77 = .ok (.aload_n 0, 1) := by decide +kernel
theorem dX7_readsClause_78 : decode cX7_readsClause 78 = .ok (.aload_n 0, 1) := by decide +kernel
theorem dX7_readsClause_79 : decode cX7_readsClause 79 = .ok (.getfield 112, 3) := by decide +kernel
theorem dX7_readsClause_82 : decode cX7_readsClause 82 = .ok (.bipush 119, 2) := by decide +kernel
theorem dX7_readsClause_84 : decode cX7_readsClause 84 = .ok (.if_icmp .ne 7, 3) := by decide +kernel
theorem dX7_readsClause_87 : decode cX7_readsClause 87 = .ok (.iconst 3, 1) := by decide +kernel
theorem dX7_readsClause_88 : decode cX7_readsClause 88 = .ok (.goto 4, 3) := by decide +kernel
theorem dX7_readsClause_91 : decode cX7_readsClause 91 = .ok (.iconst 1, 1) := by decide +kernel
theorem dX7_readsClause_92 : decode cX7_readsClause 92 = .ok (.invokevirtual 115, 3) := by decide +kernel
theorem dX7_readsClause_95 : decode cX7_readsClause 95 = .ok (.putfield 119, 3) := by decide +kernel
theorem dX7_readsClause_98 : decode cX7_readsClause 98 = .ok (.aload_n 0, 1) := by decide +kernel
theorem dX7_readsClause_99 : decode cX7_readsClause 99 = .ok (.getfield 119, 3) := by decide +kernel
theorem dX7_readsClause_102 : decode cX7_readsClause 102 = .ok (.ifCond .lt 21, 3) := by decide +kernel
theorem dX7_readsClause_105 : decode cX7_readsClause 105 = .ok (.aload_n 0, 1) := by decide +kernel
theorem dX7_readsClause_106 : decode cX7_readsClause 106 = .ok (.getfield 112, 3) := by decide +kernel
theorem dX7_readsClause_109 : decode cX7_readsClause 109 = .ok (.bipush 112, 2) := by decide +kernel
theorem dX7_readsClause_111 : decode cX7_readsClause 111 = .ok (.if_icmp .eq 12, 3) := by decide +kernel
theorem dX7_readsClause_114 : decode cX7_readsClause 114 = .ok (.aload_n 0, 1) := by decide +kernel
theorem dX7_readsClause_115 : decode cX7_readsClause 115 = .ok (.getfield 112, 3) := by decide +kernel
theorem dX7_readsClause_118 : decode cX7_readsClause 118 = .ok (.bipush 101, 2) := by decide +kernel
theorem dX7_readsClause_120 : decode cX7_readsClause 120 = .ok (.if_icmp .ne 16, 3) := by decide +kernel
theorem dX7_readsClause_123 : decode cX7_readsClause 123 = .ok (.aload_n 0, 1) := by decide +kernel
theorem dX7_readsClause_124 : decode cX7_readsClause 124 = .ok (.getfield 119, 3) := by decide +kernel
theorem dX7_readsClause_127 : decode cX7_readsClause 127 = .ok (.ifCond .lt 7, 3) := by decide +kernel
theorem dX7_readsClause_130 : decode cX7_readsClause 130 = .ok (.iconst 1, 1) := by decide +kernel
theorem dX7_readsClause_131 : decode cX7_readsClause 131 = .ok (.goto 4, 3) := by decide +kernel
theorem dX7_readsClause_134 : decode cX7_readsClause 134 = .ok (.iconst 0, 1) := by decide +kernel
theorem dX7_readsClause_135 : decode cX7_readsClause 135 = .ok (.ireturn, 1) := by decide +kernel
theorem dX7_readsClause_136 : decode cX7_readsClause 136 = .ok (.aload_n 0, 1) := by decide +kernel
theorem dX7_readsClause_137 : decode cX7_readsClause 137 = .ok (.getfield 112, 3) := by decide +kernel
theorem dX7_readsClause_140 : decode cX7_readsClause 140 = .ok (.bipush 119, 2) := by decide +kernel
theorem dX7_readsClause_142 : decode cX7_readsClause 142 = .ok (.if_icmp .ne 24, 3) := by decide +kernel
theorem dX7_readsClause_145 : decode cX7_readsClause 145 = .ok (.aload_n 0, 1) := by decide +kernel
theorem dX7_readsClause_146 : decode cX7_readsClause 146 = .ok (.invokevirtual 105, 3) := by decide +kernel
theorem dX7_readsClause_149 : decode cX7_readsClause 149 = .ok (.bipush 44, 2) := by decide +kernel
theorem dX7_readsClause_151 : decode cX7_readsClause 151 = .ok (.if_icmp .eq 5, 3) := by decide +kernel
theorem dX7_readsClause_154 : decode cX7_readsClause 154 = .ok (.iconst 0, 1) := by decide +kernel
theorem dX7_readsClause_155 : decode cX7_readsClause 155 = .ok (.ireturn, 1) := by decide +kernel
theorem dX7_readsClause_156 : decode cX7_readsClause 156 = .ok (.aload_n 0, 1) := by decide +kernel
theorem dX7_readsClause_157 : decode cX7_readsClause 157 = .ok (.dup, 1) := by decide +kernel
theorem dX7_readsClause_158 : decode cX7_readsClause 158 = .ok (.getfield 102, 3) := by decide +kernel
theorem dX7_readsClause_161 : decode cX7_readsClause 161 = .ok (.iconst 1, 1) := by decide +kernel
theorem dX7_readsClause_162 : decode cX7_readsClause 162 = .ok (.iadd, 1) := by decide +kernel
theorem dX7_readsClause_163 : decode cX7_readsClause 163 = .ok (.putfield 102, 3) := by decide +kernel
theorem dX7_readsClause_166 : decode cX7_readsClause 166 = .ok (.aload_n 0, 1) := by decide +kernel
theorem dX7_readsClause_167 : decode cX7_readsClause 167 = .ok (.aload_n 0, 1) := by decide +kernel
theorem dX7_readsClause_168 : decode cX7_readsClause 168 = .ok (.iconst 3, 1) := by decide +kernel
theorem dX7_readsClause_169 : decode cX7_readsClause 169 = .ok (.invokevirtual 115, 3) := by decide +kernel
theorem dX7_readsClause_172 : decode cX7_readsClause 172 = .ok (.putfield 122, 3) := by decide +kernel
theorem dX7_readsClause_175 : decode cX7_readsClause 175 = .ok (.aload_n 0, 1) := by decide +kernel
theorem dX7_readsClause_176 : decode cX7_readsClause 176 = .ok (.getfield 122, 3) := by decide +kernel
theorem dX7_readsClause_179 : decode cX7_readsClause 179 = .ok (.ifCond .lt 7, 3) := by decide +kernel
theorem dX7_readsClause_182 : decode cX7_readsClause 182 = .ok (.iconst 1, 1) := by decide +kernel
theorem dX7_readsClause_183 : decode cX7_readsClause 183 = .ok (.goto 4, 3) := by decide +kernel
theorem dX7_readsClause_186 : decode cX7_readsClause 186 = .ok (.iconst 0, 1) := by decide +kernel
theorem dX7_readsClause_187 : decode cX7_readsClause 187 = .ok (.ireturn, 1) := by decide +kernel
set_option maxRecDepth 20000 in
theorem ggX7_fault_X7_readsClause : GoodIn wsX7_fault wsX7_readsClause := goodIn_r _ [7, 8, 1, 9, 10, 11, 12, 13, 6, 14, 2, 15, 16, 17, 18, 19, 20, 21, 22, 23, 24, 25, 26, 27, 28, 29, 30, 31, 32, 33, 34, 35, 36, 37, 38, 39] (by decide +kernel) (by decide +kernel)
set_option maxRecDepth 20000 in
theorem gX7_fault_X7_readsClause : GoodIn wsX7_fault (wsV RX7 125 RX7 yX7_readsClause wsX7_readsClause) := goodIn_app (goodIn_of _ (by decide +kernel)) ggX7_fault_X7_readsClause
set_option maxRecDepth 20000 in
theorem ggX7_fault_X7_here : GoodIn wsX7_fault wsX7_here := goodIn_r _ [14, 1, 2, 15, 25, 26, 27, 28, 29, 30, 31, 32, 33, 34, 35, 36, 37, 38, 39] (by decide +kernel) (by decide +kernel)
set_option maxRecDepth 20000 in
theorem gX7_fault_X7_here : GoodIn wsX7_fault (wsV RX7 105 RX7 yX7_here wsX7_here) := goodIn_app (goodIn_of _ (by decide +kernel)) ggX7_fault_X7_here
theorem dX7_fault_0 : decode cX7_fault 0 = .ok (.aload_n 0, 1) := by decide +kernel
theorem dX7_fault_1 : decode cX7_fault 1 = .ok (.iconst 0, 1) := by decide +kernel
theorem dX7_fault_2 : decode cX7_fault 2 = .ok (.putfield 102, 3) := by decide +kernel
theorem dX7_fault_5 : decode cX7_fault 5 = .ok (.iconst 0, 1) := by decide +kernel
theorem dX7_fault_6 : decode cX7_fault 6 = .ok (.istore_n 1, 1) := by decide +kernel
theorem dX7_fault_7 : decode cX7_fault 7 = .ok (.iconst 1, 1) := by decide +kernel
theorem dX7_fault_8 : decode cX7_fault 8 = .ok (.istore_n 2, 1) := by decide +kernel
theorem dX7_fault_9 : decode cX7_fault 9 = .ok (.iload_n 2, 1) := by decide +kernel
theorem dX7_fault_10 : decode cX7_fault 10 = .ok (.ifCond .eq 60, 3) := by decide +kernel
theorem dX7_fault_13 : decode cX7_fault 13 = .ok (.aload_n 0, 1) := by decide +kernel
theorem dX7_fault_14 : decode cX7_fault 14 = .ok (.invokevirtual 125, 3) := by decide +kernel
theorem dX7_fault_17 : decode cX7_fault 17 = .ok (.ifCond .ne 8, 3) := by decide +kernel
theorem dX7_fault_20 : decode cX7_fault 20 = .ok (.aload_n 0, 1) := by decide +kernel
theorem dX7_fault_21 : decode cX7_fault 21 = .ok (.getfield 102, 3) := by decide +kernel
theorem dX7_fault_24 : decode cX7_fault 24 = .ok (.ireturn, 1) := by decide +kernel
theorem dX7_fault_25 : decode cX7_fault 25 = .ok (.iinc 1 1, 3) := by decide +kernel
theorem dX7_fault_28 : decode cX7_fault 28 = .ok (.iload_n 1, 1) := by decide +kernel
theorem dX7_fault_29 : decode cX7_fault 29 = .ok (.bipush 12, 2) := by decide +kernel
theorem dX7_fault_31 : decode cX7_fault 31 = .ok (.if_icmp .ge 16, 3) := by decide +kernel
theorem dX7_fault_34 : decode cX7_fault 34 = .ok (.aload_n 0, 1) := by decide +kernel
theorem dX7_fault_35 : decode cX7_fault 35 = .ok (.invokevirtual 105, 3) := by decide +kernel
theorem dX7_fault_38 : decode cX7_fault 38 = .ok (.bipush 59, 2) := by decide +kernel
theorem dX7_fault_40 : decode cX7_fault 40 = .ok (.if_icmp .ne 7, 3) := by decide +kernel
theorem dX7_fault_43 : decode cX7_fault 43 = .ok (.iconst 1, 1) := by decide +kernel
theorem dX7_fault_44 : decode cX7_fault 44 = .ok (.goto 4, 3) := by decide +kernel
theorem dX7_fault_47 : decode cX7_fault 47 = .ok (.iconst 0, 1) := by decide +kernel
theorem dX7_fault_48 : decode cX7_fault 48 = .ok (.istore_n 2, 1) := by decide +kernel
theorem dX7_fault_49 : decode cX7_fault 49 = .ok (.aload_n 0, 1) := by decide +kernel
theorem dX7_fault_50 : decode cX7_fault 50 = .ok (.dup, 1) := by decide +kernel
theorem dX7_fault_51 : decode cX7_fault 51 = .ok (.getfield 102, 3) := by decide +kernel
theorem dX7_fault_54 : decode cX7_fault 54 = .ok (.iload_n 2, 1) := by decide +kernel
theorem dX7_fault_55 : decode cX7_fault 55 = .ok (.ifCond .eq 7, 3) := by decide +kernel
theorem dX7_fault_58 : decode cX7_fault 58 = .ok (.iconst 1, 1) := by decide +kernel
theorem dX7_fault_59 : decode cX7_fault 59 = .ok (.goto 4, 3) := by decide +kernel
theorem dX7_fault_62 : decode cX7_fault 62 = .ok (.iconst 0, 1) := by decide +kernel
theorem dX7_fault_63 : decode cX7_fault 63 = .ok (.iadd, 1) := by decide +kernel
theorem dX7_fault_64 : decode cX7_fault 64 = .ok (.putfield 102, 3) := by decide +kernel
theorem dX7_fault_67 : decode cX7_fault 67 = .ok (.goto (-58), 3) := by decide +kernel
theorem dX7_fault_70 : decode cX7_fault 70 = .ok (.aload_n 0, 1) := by decide +kernel
theorem dX7_fault_71 : decode cX7_fault 71 = .ok (.getfield 102, 3) := by decide +kernel
theorem dX7_fault_74 : decode cX7_fault 74 = .ok (.aload_n 0, 1) := by decide +kernel
theorem dX7_fault_75 : decode cX7_fault 75 = .ok (.getfield 99, 3) := by decide +kernel
theorem dX7_fault_78 : decode cX7_fault 78 = .ok (.if_icmp .ge 10, 3) := by decide +kernel
theorem dX7_fault_81 : decode cX7_fault 81 = .ok (.aload_n 0, 1) := by decide +kernel
theorem dX7_fault_82 : decode cX7_fault 82 = .ok (.getfield 102, 3) := by decide +kernel
theorem dX7_fault_85 : decode cX7_fault 85 = .ok (.goto 4, 3) := by decide +kernel
theorem dX7_fault_88 : decode cX7_fault 88 = .ok (.iconst (-1), 1) := by decide +kernel
theorem dX7_fault_89 : decode cX7_fault 89 = .ok (.ireturn, 1) := by decide +kernel
set_option maxRecDepth 20000 in
theorem ggX7_isDone_X7_prime : GoodIn wsX7_isDone wsX7_prime := goodIn_r _ [8, 9, 10, 11, 7, 12, 41, 42, 43, 44, 45, 46, 47, 48, 49, 50, 51, 52, 53, 54, 55] (by decide +kernel) (by decide +kernel)
set_option maxRecDepth 20000 in
theorem gX7_isDone_X7_prime : GoodIn wsX7_isDone (wsV RX7 129 RX7 yX7_prime wsX7_prime) := goodIn_app (goodIn_of _ (by decide +kernel)) ggX7_isDone_X7_prime
set_option maxRecDepth 20000 in
theorem ggX7_isDone_X7_power_ : GoodIn wsX7_isDone wsX7_power_ := goodIn_r _ [16, 17, 9, 18, 19, 7, 20, 41, 42, 43, 44, 45, 46, 47, 48, 49, 50, 51, 52, 53, 54, 55] (by decide +kernel) (by decide +kernel)
set_option maxRecDepth 20000 in
theorem gX7_isDone_X7_power_ : GoodIn wsX7_isDone (wsV RX7 132 RX7 yX7_power_ wsX7_power_) := goodIn_app (goodIn_of _ (by decide +kernel)) ggX7_isDone_X7_power_
set_option maxRecDepth 20000 in
theorem ggX7_isDone_X7_mark : GoodIn wsX7_isDone wsX7_mark := goodIn_r _ [24, 25, 9, 26, 27, 7, 28, 17, 18, 19, 20, 41, 42, 43, 44, 45, 46, 47, 48, 49, 50, 51, 52, 53, 54, 55] (by decide +kernel) (by decide +kernel)
set_option maxRecDepth 20000 in
theorem gX7_isDone_X7_mark : GoodIn wsX7_isDone (wsV RX7 134 RX7 yX7_mark wsX7_mark) := goodIn_app (goodIn_of _ (by decide +kernel)) ggX7_isDone_X7_mark
set_option maxRecDepth 20000 in
theorem ggX7_isDone_X7_clear : GoodIn wsX7_isDone wsX7_clear := goodIn_r _ [32, 9, 41, 42, 43, 44, 45, 46, 47, 48, 49, 50, 51, 52, 53, 54, 55] (by decide +kernel) (by decide +kernel)
set_option maxRecDepth 20000 in
theorem gX7_isDone_X7_clear : GoodIn wsX7_isDone (wsV RX7 137 RX7 yX7_clear wsX7_clear) := goodIn_app (goodIn_of _ (by decide +kernel)) ggX7_isDone_X7_clear
set_option maxRecDepth 20000 in
theorem ggX7_isDone_X7_window : GoodIn wsX7_isDone wsX7_window := goodIn_r _ [36, 9, 37, 38, 7, 39, 40, 18, 19, 20, 41, 42, 43, 44, 45, 46, 47, 48, 49, 50, 51, 52, 53, 54, 55] (by decide +kernel) (by decide +kernel)
set_option maxRecDepth 20000 in
theorem gX7_isDone_X7_window : GoodIn wsX7_isDone (wsV RX7 140 RX7 yX7_window wsX7_window) := goodIn_app (goodIn_of _ (by decide +kernel)) ggX7_isDone_X7_window
theorem dX7_isDone_0 : decode cX7_isDone 0 = .ok (.aload_n 0, 1) := by decide +kernel
theorem dX7_isDone_1 : decode cX7_isDone 1 = .ok (.getfield 112, 3) := by decide +kernel
theorem dX7_isDone_4 : decode cX7_isDone 4 = .ok (.lookupswitch 112 #[(101, 61), (109, 78), (112, 44), (120, 99)], 44) := by decide +kernel
theorem dX7_isDone_48 : decode cX7_isDone 48 = .ok (.aload_n 0, 1) := by decide +kernel
theorem dX7_isDone_49 : decode cX7_isDone 49 = .ok (.aload_n 0, 1) := by decide +kernel
theorem dX7_isDone_50 : decode cX7_isDone 50 = .ok (.getfield 119, 3) := by decide +kernel
theorem dX7_isDone_53 : decode cX7_isDone 53 = .ok (.invokevirtual 129, 3) := by decide +kernel
theorem dX7_isDone_56 : decode cX7_isDone 56 = .ok (.ifCond .lt 7, 3) := by decide +kernel
theorem dX7_isDone_59 : decode cX7_isDone 59 = .ok (.iconst 1, 1) := by decide +kernel
theorem dX7_isDone_60 : decode cX7_isDone 60 = .ok (.goto 4, 3) := by decide +kernel
theorem dX7_isDone_63 : decode cX7_isDone 63 = .ok (.iconst 0, 1) := by decide +kernel
theorem dX7_isDone_64 : decode cX7_isDone 64 = .ok (.ireturn, 1) := by decide +kernel
theorem dX7_isDone_65 : decode cX7_isDone 65 = .ok (.aload_n 0, 1) := by decide +kernel
theorem dX7_isDone_66 : decode cX7_isDone 66 = .ok (.aload_n 0, 1) := by decide +kernel
theorem dX7_isDone_67 : decode cX7_isDone 67 = .ok (.getfield 119, 3) := by decide +kernel
theorem dX7_isDone_70 : decode cX7_isDone 70 = .ok (.invokevirtual 132, 3) := by decide +kernel
theorem dX7_isDone_73 : decode cX7_isDone 73 = .ok (.ifCond .lt 7, 3) := by decide +kernel
theorem dX7_isDone_76 : decode cX7_isDone 76 = .ok (.iconst 1, 1) := by decide +kernel
theorem dX7_isDone_77 : decode cX7_isDone 77 = .ok (.goto 4, 3) := by decide +kernel
theorem dX7_isDone_80 : decode cX7_isDone 80 = .ok (.iconst 0, 1) := by decide +kernel
theorem dX7_isDone_81 : decode cX7_isDone 81 = .ok (.ireturn, 1) := by decide +kernel
theorem dX7_isDone_82 : decode cX7_isDone 82 = .ok (.aload_n 0, 1) := by decide +kernel
theorem dX7_isDone_83 : decode cX7_isDone 83 = .ok (.aload_n 0, 1) := by decide +kernel
theorem dX7_isDone_84 : decode cX7_isDone 84 = .ok (.getfield 119, 3) := by decide +kernel
theorem dX7_isDone_87 : decode cX7_isDone 87 = .ok (.aload_n 0, 1) := by decide +kernel
theorem dX7_isDone_88 : decode cX7_isDone 88 = .ok (.getfield 122, 3) := by decide +kernel
theorem dX7_isDone_91 : decode cX7_isDone 91 = .ok (.invokevirtual 134, 3) := by decide +kernel
theorem dX7_isDone_94 : decode cX7_isDone 94 = .ok (.ifCond .lt 7, 3) := by decide +kernel
theorem dX7_isDone_97 : decode cX7_isDone 97 = .ok (.iconst 1, 1) := by decide +kernel
theorem dX7_isDone_98 : decode cX7_isDone 98 = .ok (.goto 4, 3) := by decide +kernel
theorem dX7_isDone_101 : decode cX7_isDone 101 = .ok (.iconst 0, 1) := by decide +kernel
theorem dX7_isDone_102 : decode cX7_isDone 102 = .ok (.ireturn, 1) := by decide +kernel
theorem dX7_isDone_103 : decode cX7_isDone 103 = .ok (.aload_n 0, 1) := by decide +kernel
theorem dX7_isDone_104 : decode cX7_isDone 104 = .ok (.invokevirtual 137, 3) := by decide +kernel
theorem dX7_isDone_107 : decode cX7_isDone 107 = .ok (.ifCond .lt 7, 3) := by decide +kernel
theorem dX7_isDone_110 : decode cX7_isDone 110 = .ok (.iconst 1, 1) := by decide +kernel
theorem dX7_isDone_111 : decode cX7_isDone 111 = .ok (.goto 4, 3) := by decide +kernel
theorem dX7_isDone_114 : decode cX7_isDone 114 = .ok (.iconst 0, 1) := by decide +kernel
theorem dX7_isDone_115 : decode cX7_isDone 115 = .ok (.ireturn, 1) := by decide +kernel
theorem dX7_isDone_116 : decode cX7_isDone 116 = .ok (.aload_n 0, 1) := by decide +kernel
theorem dX7_isDone_117 : decode cX7_isDone 117 = .ok (.aload_n 0, 1) := by decide +kernel
theorem dX7_isDone_118 : decode cX7_isDone 118 = .ok (.getfield 119, 3) := by decide +kernel
theorem dX7_isDone_121 : decode cX7_isDone 121 = .ok (.aload_n 0, 1) := by decide +kernel
theorem dX7_isDone_122 : decode cX7_isDone 122 = .ok (.getfield 122, 3) := by decide +kernel
theorem dX7_isDone_125 : decode cX7_isDone 125 = .ok (.invokevirtual 140, 3) := by decide +kernel
theorem dX7_isDone_128 : decode cX7_isDone 128 = .ok (.ifCond .lt 7, 3) := by decide +kernel
theorem dX7_isDone_131 : decode cX7_isDone 131 = .ok (.iconst 1, 1) := by decide +kernel
theorem dX7_isDone_132 : decode cX7_isDone 132 = .ok (.goto 4, 3) := by decide +kernel
theorem dX7_isDone_135 : decode cX7_isDone 135 = .ok (.iconst 0, 1) := by decide +kernel
theorem dX7_isDone_136 : decode cX7_isDone 136 = .ok (.ireturn, 1) := by decide +kernel
set_option maxRecDepth 20000 in
theorem ggX7_read_X7_fault : GoodIn wsX7_read wsX7_fault := goodIn_r _ [7, 1, 2, 8, 9, 10, 6, 11, 12, 13, 14, 15, 16, 17, 18, 19, 20, 21, 22, 23, 24, 25, 26, 27, 28, 66, 67, 68, 69, 70, 71, 72, 73, 74, 75, 76, 77, 78, 79, 80] (by decide +kernel) (by decide +kernel)
set_option maxRecDepth 20000 in
theorem gX7_read_X7_fault : GoodIn wsX7_read (wsV RX7 143 RX7 yX7_fault wsX7_fault) := goodIn_app (goodIn_of _ (by decide +kernel)) ggX7_read_X7_fault
set_option maxRecDepth 20000 in
theorem ggX7_read_X7_readsClause : GoodIn wsX7_read wsX7_readsClause := goodIn_r _ [11, 12, 1, 13, 14, 15, 16, 17, 6, 18, 2, 19, 20, 21, 22, 23, 24, 25, 26, 27, 28, 66, 67, 68, 69, 70, 71, 72, 73, 74, 75, 76, 77, 78, 79, 80] (by decide +kernel) (by decide +kernel)
set_option maxRecDepth 20000 in
theorem gX7_read_X7_readsClause : GoodIn wsX7_read (wsV RX7 125 RX7 yX7_readsClause wsX7_readsClause) := goodIn_app (goodIn_of _ (by decide +kernel)) ggX7_read_X7_readsClause
set_option maxRecDepth 20000 in
theorem ggX7_read_X7_isDone : GoodIn wsX7_read wsX7_isDone := goodIn_r _ [32, 12, 13, 14, 33, 34, 35, 6, 36, 37, 38, 39, 40, 41, 42, 43, 44, 45, 26, 27, 28, 46, 47, 48, 49, 50, 51, 52, 53, 54, 55, 56, 57, 58, 59, 60, 61, 62, 63, 64, 65, 66, 67, 68, 69, 70, 71, 72, 73, 74, 75, 76, 77, 78, 79, 80] (by decide +kernel) (by decide +kernel)
set_option maxRecDepth 20000 in
theorem gX7_read_X7_isDone : GoodIn wsX7_read (wsV RX7 146 RX7 yX7_isDone wsX7_isDone) := goodIn_app (goodIn_of _ (by decide +kernel)) ggX7_read_X7_isDone
theorem dX7_read_0 : decode cX7_read 0 = .ok (.aload_n 0, 1) := by decide +kernel
theorem dX7_read_1 : decode cX7_read 1 = .ok (.invokevirtual 143, 3) := by decide +kernel
theorem dX7_read_4 : decode cX7_read 4 = .ok (.istore_n 1, 1) := by decide +kernel
theorem dX7_read_5 : decode cX7_read 5 = .ok (.iconst 0, 1) := by decide +kernel
theorem dX7_read_6 : decode cX7_read 6 = .ok (.istore_n 2, 1) := by decide +kernel
theorem dX7_read_7 : decode cX7_read 7 = .ok (.aload_n 0, 1) := by decide +kernel
theorem dX7_read_8 : decode cX7_read 8 = .ok (.iconst 0, 1) := by decide +kernel
theorem dX7_read_9 : decode cX7_read 9 = .ok (.putfield 102, 3) := by decide +kernel
theorem dX7_read_12 : decode cX7_read 12 = .ok (.iload_n 1, 1) := by decide +kernel
theorem dX7_read_13 : decode cX7_read 13 = .ok (.iconst (-1), 1) := by decide +kernel
theorem dX7_read_14 : decode cX7_read 14 = .ok (.if_icmp .ne 51, 3) := by decide +kernel
theorem dX7_read_17 : decode cX7_read 17 = .ok (.aload_n 0, 1) := by decide +kernel
theorem dX7_read_18 : decode cX7_read 18 = .ok (.getfield 102, 3) := by decide +kernel
theorem dX7_read_21 : decode cX7_read 21 = .ok (.aload_n 0, 1) := by decide +kernel
theorem dX7_read_22 : decode cX7_read 22 = .ok (.getfield 99, 3) := by decide +kernel
theorem dX7_read_25 : decode cX7_read 25 = .ok (.if_icmp .ge 40, 3) := by decide +kernel
theorem dX7_read_28 : decode cX7_read 28 = .ok (.aload_n 0, 1) := by decide +kernel
theorem dX7_read_29 : decode cX7_read 29 = .ok (.invokevirtual 125, 3) := by decide +kernel
theorem dX7_read_32 : decode cX7_read 32 = .ok (.istore_n 3, 1) := by decide +kernel
theorem dX7_read_33 : decode cX7_read 33 = .ok (.iload_n 2, 1) := by decide +kernel
theorem dX7_read_34 : decode cX7_read 34 = .ok (.iload_n 3, 1) := by decide +kernel
theorem dX7_read_35 : decode cX7_read 35 = .ok (.ifCond .eq 14, 3) := by decide +kernel
theorem dX7_read_38 : decode cX7_read 38 = .ok (.aload_n 0, 1) := by decide +kernel
theorem dX7_read_39 : decode cX7_read 39 = .ok (.invokevirtual 146, 3) := by decide +kernel
theorem dX7_read_42 : decode cX7_read 42 = .ok (.ifCond .eq 7, 3) := by decide +kernel
theorem dX7_read_45 : decode cX7_read 45 = .ok (.iconst 1, 1) := by decide +kernel
theorem dX7_read_46 : decode cX7_read 46 = .ok (.goto 4, 3) := by decide +kernel
theorem dX7_read_49 : decode cX7_read 49 = .ok (.iconst 0, 1) := by decide +kernel
theorem dX7_read_50 : decode cX7_read 50 = .ok (.iadd, 1) := by decide +kernel
theorem dX7_read_51 : decode cX7_read 51 = .ok (.istore_n 2, 1) := by decide +kernel
theorem dX7_read_52 : decode cX7_read 52 = .ok (.aload_n 0, 1) := by decide +kernel
theorem dX7_read_53 : decode cX7_read 53 = .ok (.dup, 1) := by decide +kernel
theorem dX7_read_54 : decode cX7_read 54 = .ok (.getfield 102, 3) := by decide +kernel
theorem dX7_read_57 : decode cX7_read 57 = .ok (.iconst 1, 1) := by decide +kernel
theorem dX7_read_58 : decode cX7_read 58 = .ok (.iadd, 1) := by decide +kernel
theorem dX7_read_59 : decode cX7_read 59 = .ok (.putfield 102, 3) := by decide +kernel
theorem dX7_read_62 : decode cX7_read 62 = .ok (.goto (-50), 3) := by decide +kernel
theorem dX7_read_65 : decode cX7_read 65 = .ok (.aload_n 0, 1) := by decide +kernel
theorem dX7_read_66 : decode cX7_read 66 = .ok (.iconst 0, 1) := by decide +kernel
theorem dX7_read_67 : decode cX7_read 67 = .ok (.putfield 99, 3) := by decide +kernel
theorem dX7_read_70 : decode cX7_read 70 = .ok (.iload_n 1, 1) := by decide +kernel
theorem dX7_read_71 : decode cX7_read 71 = .ok (.iconst (-1), 1) := by decide +kernel
theorem dX7_read_72 : decode cX7_read 72 = .ok (.if_icmp .ne 7, 3) := by decide +kernel
theorem dX7_read_75 : decode cX7_read 75 = .ok (.iload_n 2, 1) := by decide +kernel
theorem dX7_read_76 : decode cX7_read 76 = .ok (.goto 7, 3) := by decide +kernel
theorem dX7_read_79 : decode cX7_read 79 = .ok (.bipush (-10), 2) := by decide +kernel
theorem dX7_read_81 : decode cX7_read 81 = .ok (.iload_n 1, 1) := by decide +kernel
theorem dX7_read_82 : decode cX7_read 82 = .ok (.isub, 1) := by decide +kernel
theorem dX7_read_83 : decode cX7_read 83 = .ok (.ireturn, 1) := by decide +kernel
set_option maxRecDepth 20000 in
theorem ggX7_markedInWindow_X7_isMarked : GoodIn wsX7_markedInWindow wsX7_isMarked := goodIn_r _ [6, 1, 7, 8, 5, 9, 10, 11, 12, 13, 14, 15, 16, 17, 18, 19, 20, 21, 22, 23, 24, 25, 26, 27, 28, 29, 30, 31, 32, 33, 34, 35, 36, 37, 38, 39, 40, 41, 42, 43, 44, 45, 46, 47, 48, 49, 50, 51, 52, 53, 54, 55, 56, 57, 58, 59, 60, 61, 62, 63, 64, 65, 66, 67, 68, 69, 70, 71] (by decide +kernel) (by decide +kernel)
set_option maxRecDepth 20000 in
theorem gX7_markedInWindow_X7_isMarked : GoodIn wsX7_markedInWindow (wsV RX7 149 RX7 yX7_isMarked wsX7_isMarked) := goodIn_app (goodIn_of _ (by decide +kernel)) ggX7_markedInWindow_X7_isMarked
theorem dX7_markedInWindow_0 : decode cX7_markedInWindow 0 = .ok (.iconst 0, 1) := by decide +kernel
theorem dX7_markedInWindow_1 : decode cX7_markedInWindow 1 = .ok (.istore_n 1, 1) := by decide +kernel
theorem dX7_markedInWindow_2 : decode cX7_markedInWindow 2 = .ok (.iconst 0, 1) := by decide +kernel
theorem dX7_markedInWindow_3 : decode cX7_markedInWindow 3 = .ok (.istore_n 2, 1) := by decide +kernel
theorem dX7_markedInWindow_4 : decode cX7_markedInWindow 4 = .ok (.iload_n 2, 1) := by decide +kernel
theorem dX7_markedInWindow_5 : decode cX7_markedInWindow 5 = .ok (.bipush 8, 2) := by decide +kernel
theorem dX7_markedInWindow_7 : decode cX7_markedInWindow 7 = .ok (.if_icmp .ge 54, 3) := by decide +kernel
theorem dX7_markedInWindow_10 : decode cX7_markedInWindow 10 = .ok (.iconst 0, 1) := by decide +kernel
theorem dX7_markedInWindow_11 : decode cX7_markedInWindow 11 = .ok (.istore_n 3, 1) := by decide +kernel
theorem dX7_markedInWindow_12 : decode cX7_markedInWindow 12 = .ok (.iload_n 3, 1) := by decide +kernel
theorem dX7_markedInWindow_13 : decode cX7_markedInWindow 13 = .ok (.bipush 8, 2) := by decide +kernel
theorem dX7_markedInWindow_15 : decode cX7_markedInWindow 15 = .ok (.if_icmp .ge 40, 3) := by decide +kernel
theorem dX7_markedInWindow_18 : decode cX7_markedInWindow 18 = .ok (.iload_n 1, 1) := by decide +kernel
theorem dX7_markedInWindow_19 : decode cX7_markedInWindow 19 = .ok (.aload_n 0, 1) := by decide +kernel
theorem dX7_markedInWindow_20 : decode cX7_markedInWindow 20 = .ok (.aload_n 0, 1) := by decide +kernel
theorem dX7_markedInWindow_21 : decode cX7_markedInWindow 21 = .ok (.getfield 11, 3) := by decide +kernel
theorem dX7_markedInWindow_24 : decode cX7_markedInWindow 24 = .ok (.iconst 2, 1) := by decide +kernel
theorem dX7_markedInWindow_25 : decode cX7_markedInWindow 25 = .ok (.iaload, 1) := by decide +kernel
theorem dX7_markedInWindow_26 : decode cX7_markedInWindow 26 = .ok (.iload_n 2, 1) := by decide +kernel
theorem dX7_markedInWindow_27 : decode cX7_markedInWindow 27 = .ok (.iadd, 1) := by decide +kernel
theorem dX7_markedInWindow_28 : decode cX7_markedInWindow 28 = .ok (.aload_n 0, 1) := by decide +kernel
theorem dX7_markedInWindow_29 : decode cX7_markedInWindow 29 = .ok (.getfield 11, 3) := by decide +kernel
theorem dX7_markedInWindow_32 : decode cX7_markedInWindow 32 = .ok (.iconst 3, 1) := by decide +kernel
theorem dX7_markedInWindow_33 : decode cX7_markedInWindow 33 = .ok (.iaload, 1) := by decide +kernel
theorem dX7_markedInWindow_34 : decode cX7_markedInWindow 34 = .ok (.iload_n 3, 1) := by decide +kernel
theorem dX7_markedInWindow_35 : decode cX7_markedInWindow 35 = .ok (.iadd, 1) := by decide +kernel
theorem dX7_markedInWindow_36 : decode cX7_markedInWindow 36 = .ok (.invokevirtual 149, 3) := by decide +kernel
theorem dX7_markedInWindow_39 : decode cX7_markedInWindow 39 = .ok (.ifCond .eq 7, 3) := by decide +kernel
theorem dX7_markedInWindow_42 : decode cX7_markedInWindow 42 = .ok (.iconst 1, 1) := by decide +kernel
theorem dX7_markedInWindow_43 : decode cX7_markedInWindow 43 = .ok (.goto 4, 3) := by decide +kernel
theorem dX7_markedInWindow_46 : decode cX7_markedInWindow 46 = .ok (.iconst 0, 1) := by decide +kernel
theorem dX7_markedInWindow_47 : decode cX7_markedInWindow 47 = .ok (.iadd, 1) := by decide +kernel
theorem dX7_markedInWindow_48 : decode cX7_markedInWindow 48 = .ok (.istore_n 1, 1) := by decide +kernel
theorem dX7_markedInWindow_49 : decode cX7_markedInWindow 49 = .ok (.iinc 3 1, 3) := by decide +kernel
theorem dX7_markedInWindow_52 : decode cX7_markedInWindow 52 = .ok (.goto (-40), 3) := by decide +kernel
theorem dX7_markedInWindow_55 : decode cX7_markedInWindow 55 = .ok (.iinc 2 1, 3) := by decide +kernel
theorem dX7_markedInWindow_58 : decode cX7_markedInWindow 58 = .ok (.goto (-54), 3) := by decide +kernel
theorem dX7_markedInWindow_61 : decode cX7_markedInWindow 61 = .ok (.iload_n 1, 1) := by decide +kernel
theorem dX7_markedInWindow_62 : decode cX7_markedInWindow 62 = .ok (.ireturn, 1) := by decide +kernel
set_option maxRecDepth 20000 in
theorem ggX7_told_X7_modulus : GoodIn wsX7_told wsX7_modulus := goodIn_r _ [6, 1, 7, 8, 5, 9, 61, 62, 63, 64, 65, 66, 67, 68, 69, 70, 71, 72, 73, 74, 75] (by decide +kernel) (by decide +kernel)
set_option maxRecDepth 20000 in
theorem gX7_told_X7_modulus : GoodIn wsX7_told (wsV RX7 45 RX7 yX7_modulus wsX7_modulus) := goodIn_app (goodIn_of _ (by decide +kernel)) ggX7_told_X7_modulus
set_option maxRecDepth 20000 in
theorem ggX7_told_X7_markedInWindow : GoodIn wsX7_told wsX7_markedInWindow := goodIn_r _ [13, 1, 14, 15, 16, 5, 17, 18, 19, 20, 21, 22, 23, 24, 25, 26, 27, 28, 29, 30, 31, 32, 33, 34, 35, 36, 2, 3, 4, 6, 7, 8, 9, 37, 38, 39, 40, 41, 42, 43, 44, 45, 46, 47, 48, 49, 50, 51, 52, 53, 54, 55, 56, 57, 58, 59, 60, 61, 62, 63, 64, 65, 66, 67, 68, 69, 70, 71, 72, 73, 74, 75] (by decide +kernel) (by decide +kernel)
set_option maxRecDepth 20000 in
theorem gX7_told_X7_markedInWindow : GoodIn wsX7_told (wsV RX7 152 RX7 yX7_markedInWindow wsX7_markedInWindow) := goodIn_app (goodIn_of _ (by decide +kernel)) ggX7_told_X7_markedInWindow
theorem dX7_told_0 : decode cX7_told 0 = .ok (.iload_n 1, 1) := by decide +kernel
theorem dX7_told_1 : decode cX7_told 1 = .ok (.tableswitch 88 0 6 #[43, 50, 57, 62, 69, 76, 83], 43) := by decide +kernel
theorem dX7_told_44 : decode cX7_told 44 = .ok (.aload_n 0, 1) := by decide +kernel
theorem dX7_told_45 : decode cX7_told 45 = .ok (.getfield 11, 3) := by decide +kernel
theorem dX7_told_48 : decode cX7_told 48 = .ok (.iconst 0, 1) := by decide +kernel
theorem dX7_told_49 : decode cX7_told 49 = .ok (.iaload, 1) := by decide +kernel
theorem dX7_told_50 : decode cX7_told 50 = .ok (.ireturn, 1) := by decide +kernel
theorem dX7_told_51 : decode cX7_told 51 = .ok (.aload_n 0, 1) := by decide +kernel
theorem dX7_told_52 : decode cX7_told 52 = .ok (.getfield 11, 3) := by decide +kernel
theorem dX7_told_55 : decode cX7_told 55 = .ok (.iconst 1, 1) := by decide +kernel
theorem dX7_told_56 : decode cX7_told 56 = .ok (.iaload, 1) := by decide +kernel
theorem dX7_told_57 : decode cX7_told 57 = .ok (.ireturn, 1) := by decide +kernel
theorem dX7_told_58 : decode cX7_told 58 = .ok (.aload_n 0, 1) := by decide +kernel
theorem dX7_told_59 : decode cX7_told 59 = .ok (.invokevirtual 45, 3) := by decide +kernel
theorem dX7_told_62 : decode cX7_told 62 = .ok (.ireturn, 1) := by decide +kernel
theorem dX7_told_63 : decode cX7_told 63 = .ok (.aload_n 0, 1) := by decide +kernel
theorem dX7_told_64 : decode cX7_told 64 = .ok (.getfield 11, 3) := by decide +kernel
theorem dX7_told_67 : decode cX7_told 67 = .ok (.iconst 4, 1) := by decide +kernel
theorem dX7_told_68 : decode cX7_told 68 = .ok (.iaload, 1) := by decide +kernel
theorem dX7_told_69 : decode cX7_told 69 = .ok (.ireturn, 1) := by decide +kernel
theorem dX7_told_70 : decode cX7_told 70 = .ok (.aload_n 0, 1) := by decide +kernel
theorem dX7_told_71 : decode cX7_told 71 = .ok (.getfield 11, 3) := by decide +kernel
theorem dX7_told_74 : decode cX7_told 74 = .ok (.iconst 2, 1) := by decide +kernel
theorem dX7_told_75 : decode cX7_told 75 = .ok (.iaload, 1) := by decide +kernel
theorem dX7_told_76 : decode cX7_told 76 = .ok (.ireturn, 1) := by decide +kernel
theorem dX7_told_77 : decode cX7_told 77 = .ok (.aload_n 0, 1) := by decide +kernel
theorem dX7_told_78 : decode cX7_told 78 = .ok (.getfield 11, 3) := by decide +kernel
theorem dX7_told_81 : decode cX7_told 81 = .ok (.iconst 3, 1) := by decide +kernel
theorem dX7_told_82 : decode cX7_told 82 = .ok (.iaload, 1) := by decide +kernel
theorem dX7_told_83 : decode cX7_told 83 = .ok (.ireturn, 1) := by decide +kernel
theorem dX7_told_84 : decode cX7_told 84 = .ok (.aload_n 0, 1) := by decide +kernel
theorem dX7_told_85 : decode cX7_told 85 = .ok (.invokevirtual 152, 3) := by decide +kernel
theorem dX7_told_88 : decode cX7_told 88 = .ok (.ireturn, 1) := by decide +kernel
theorem dX7_told_89 : decode cX7_told 89 = .ok (.iconst (-1), 1) := by decide +kernel
theorem dX7_told_90 : decode cX7_told 90 = .ok (.ireturn, 1) := by decide +kernel
set_option maxRecDepth 20000 in
theorem ggX7_markOf_X7_isIn : GoodIn wsX7_markOf wsX7_isIn := goodIn_r _ [5] (by decide +kernel) (by decide +kernel)
set_option maxRecDepth 20000 in
theorem gX7_markOf_X7_isIn : GoodIn wsX7_markOf (va_wsS RX7 55 yX7_isIn wsX7_isIn) := goodIn_app (goodIn_of _ (by decide +kernel)) ggX7_markOf_X7_isIn
theorem dX7_markOf_0 : decode cX7_markOf 0 = .ok (.iload_n 1, 1) := by decide +kernel
theorem dX7_markOf_1 : decode cX7_markOf 1 = .ok (.i2l, 1) := by decide +kernel
theorem dX7_markOf_2 : decode cX7_markOf 2 = .ok (.lconst 0, 1) := by decide +kernel
theorem dX7_markOf_3 : decode cX7_markOf 3 = .ok (.aload_n 0, 1) := by decide +kernel
theorem dX7_markOf_4 : decode cX7_markOf 4 = .ok (.getfield 11, 3) := by decide +kernel
theorem dX7_markOf_7 : decode cX7_markOf 7 = .ok (.iconst 4, 1) := by decide +kernel
theorem dX7_markOf_8 : decode cX7_markOf 8 = .ok (.iaload, 1) := by decide +kernel
theorem dX7_markOf_9 : decode cX7_markOf 9 = .ok (.iconst 1, 1) := by decide +kernel
theorem dX7_markOf_10 : decode cX7_markOf 10 = .ok (.isub, 1) := by decide +kernel
theorem dX7_markOf_11 : decode cX7_markOf 11 = .ok (.i2l, 1) := by decide +kernel
theorem dX7_markOf_12 : decode cX7_markOf 12 = .ok (.invokestatic 55, 3) := by decide +kernel
theorem dX7_markOf_15 : decode cX7_markOf 15 = .ok (.ifCond .eq 28, 3) := by decide +kernel
theorem dX7_markOf_18 : decode cX7_markOf 18 = .ok (.iload_n 2, 1) := by decide +kernel
theorem dX7_markOf_19 : decode cX7_markOf 19 = .ok (.i2l, 1) := by decide +kernel
theorem dX7_markOf_20 : decode cX7_markOf 20 = .ok (.lconst 0, 1) := by decide +kernel
theorem dX7_markOf_21 : decode cX7_markOf 21 = .ok (.lconst 1, 1) := by decide +kernel
theorem dX7_markOf_22 : decode cX7_markOf 22 = .ok (.invokestatic 55, 3) := by decide +kernel
theorem dX7_markOf_25 : decode cX7_markOf 25 = .ok (.ifCond .eq 18, 3) := by decide +kernel
theorem dX7_markOf_28 : decode cX7_markOf 28 = .ok (.aload_n 0, 1) := by decide +kernel
theorem dX7_markOf_29 : decode cX7_markOf 29 = .ok (.getfield 11, 3) := by decide +kernel
theorem dX7_markOf_32 : decode cX7_markOf 32 = .ok (.iconst 5, 1) := by decide +kernel
theorem dX7_markOf_33 : decode cX7_markOf 33 = .ok (.iconst 2, 1) := by decide +kernel
theorem dX7_markOf_34 : decode cX7_markOf 34 = .ok (.iload_n 1, 1) := by decide +kernel
theorem dX7_markOf_35 : decode cX7_markOf 35 = .ok (.imul, 1) := by decide +kernel
theorem dX7_markOf_36 : decode cX7_markOf 36 = .ok (.iadd, 1) := by decide +kernel
theorem dX7_markOf_37 : decode cX7_markOf 37 = .ok (.iload_n 2, 1) := by decide +kernel
theorem dX7_markOf_38 : decode cX7_markOf 38 = .ok (.iadd, 1) := by decide +kernel
theorem dX7_markOf_39 : decode cX7_markOf 39 = .ok (.iaload, 1) := by decide +kernel
theorem dX7_markOf_40 : decode cX7_markOf 40 = .ok (.goto 4, 3) := by decide +kernel
theorem dX7_markOf_43 : decode cX7_markOf 43 = .ok (.iconst (-1), 1) := by decide +kernel
theorem dX7_markOf_44 : decode cX7_markOf 44 = .ok (.ireturn, 1) := by decide +kernel
set_option maxRecDepth 20000 in
theorem ggX7_at_X7_isRow : GoodIn wsX7_at wsX7_isRow := goodIn_r _ [4, 5, 6, 7, 3, 8] (by decide +kernel) (by decide +kernel)
set_option maxRecDepth 20000 in
theorem gX7_at_X7_isRow : GoodIn wsX7_at (va_wsS RX7 77 yX7_isRow wsX7_isRow) := goodIn_app (goodIn_of _ (by decide +kernel)) ggX7_at_X7_isRow
set_option maxRecDepth 20000 in
theorem ggX7_at_X7_remainder : GoodIn wsX7_at wsX7_remainder := goodIn_r _ [12, 5, 13, 14, 15, 16, 3, 17, 18, 19, 20, 21, 22, 23, 24, 25, 26, 6, 7, 8, 27, 28, 29, 30, 31, 32, 33, 34, 35, 36, 37, 38, 39, 40, 41] (by decide +kernel) (by decide +kernel)
set_option maxRecDepth 20000 in
theorem gX7_at_X7_remainder : GoodIn wsX7_at (wsV RX7 62 RX7 yX7_remainder wsX7_remainder) := goodIn_app (goodIn_of _ (by decide +kernel)) ggX7_at_X7_remainder
theorem dX7_at_0 : decode cX7_at 0 = .ok (.iload_n 1, 1) := by decide +kernel
theorem dX7_at_1 : decode cX7_at 1 = .ok (.invokestatic 77, 3) := by decide +kernel
theorem dX7_at_4 : decode cX7_at 4 = .ok (.ifCond .eq 12, 3) := by decide +kernel
theorem dX7_at_7 : decode cX7_at 7 = .ok (.aload_n 0, 1) := by decide +kernel
theorem dX7_at_8 : decode cX7_at 8 = .ok (.iload_n 1, 1) := by decide +kernel
theorem dX7_at_9 : decode cX7_at 9 = .ok (.iload_n 2, 1) := by decide +kernel
theorem dX7_at_10 : decode cX7_at 10 = .ok (.invokevirtual 62, 3) := by decide +kernel
theorem dX7_at_13 : decode cX7_at 13 = .ok (.goto 4, 3) := by decide +kernel
theorem dX7_at_16 : decode cX7_at 16 = .ok (.iconst (-1), 1) := by decide +kernel
theorem dX7_at_17 : decode cX7_at 17 = .ok (.ireturn, 1) := by decide +kernel
set_option maxRecDepth 20000 in
theorem ggX7_rule_X7_isKind : GoodIn wsX7_rule wsX7_isKind := goodIn_r _ [4, 5, 6, 7, 3, 8] (by decide +kernel) (by decide +kernel)
set_option maxRecDepth 20000 in
theorem gX7_rule_X7_isKind : GoodIn wsX7_rule (va_wsS RX7 94 yX7_isKind wsX7_isKind) := goodIn_app (goodIn_of _ (by decide +kernel)) ggX7_rule_X7_isKind
set_option maxRecDepth 20000 in
theorem ggX7_rule_X7_isPlace : GoodIn wsX7_rule wsX7_isPlace := goodIn_r _ [11, 12, 13, 3, 14, 15, 6, 7, 8] (by decide +kernel) (by decide +kernel)
set_option maxRecDepth 20000 in
theorem gX7_rule_X7_isPlace : GoodIn wsX7_rule (va_wsS RX7 83 yX7_isPlace wsX7_isPlace) := goodIn_app (goodIn_of _ (by decide +kernel)) ggX7_rule_X7_isPlace
set_option maxRecDepth 20000 in
theorem ggX7_rule_X7_tells : GoodIn wsX7_rule wsX7_tells := goodIn_r _ [19, 20, 21, 22, 3, 23, 15, 24, 25, 26, 27, 28, 29, 30, 31, 32, 33, 34, 35, 36, 37, 6, 7, 8, 38, 39, 40, 41, 42, 43, 44, 45, 46, 47, 48, 49, 50, 51, 52, 53, 54, 55, 56, 57, 58, 59, 60, 61, 62, 63, 64, 65, 66, 67, 68, 69, 70, 71] (by decide +kernel) (by decide +kernel)
set_option maxRecDepth 20000 in
theorem gX7_rule_X7_tells : GoodIn wsX7_rule (wsV RX7 87 RX7 yX7_tells wsX7_tells) := goodIn_app (goodIn_of _ (by decide +kernel)) ggX7_rule_X7_tells
theorem dX7_rule_0 : decode cX7_rule 0 = .ok (.iload_n 1, 1) := by decide +kernel
theorem dX7_rule_1 : decode cX7_rule 1 = .ok (.invokestatic 94, 3) := by decide +kernel
theorem dX7_rule_4 : decode cX7_rule 4 = .ok (.ifCond .eq 21, 3) := by decide +kernel
theorem dX7_rule_7 : decode cX7_rule 7 = .ok (.iload_n 2, 1) := by decide +kernel
theorem dX7_rule_8 : decode cX7_rule 8 = .ok (.iload_n 3, 1) := by decide +kernel
theorem dX7_rule_9 : decode cX7_rule 9 = .ok (.invokestatic 83, 3) := by decide +kernel
theorem dX7_rule_12 : decode cX7_rule 12 = .ok (.ifCond .eq 13, 3) := by decide +kernel
theorem dX7_rule_15 : decode cX7_rule 15 = .ok (.aload_n 0, 1) := by decide +kernel
theorem dX7_rule_16 : decode cX7_rule 16 = .ok (.iload_n 1, 1) := by decide +kernel
theorem dX7_rule_17 : decode cX7_rule 17 = .ok (.iload_n 2, 1) := by decide +kernel
theorem dX7_rule_18 : decode cX7_rule 18 = .ok (.iload_n 3, 1) := by decide +kernel
theorem dX7_rule_19 : decode cX7_rule 19 = .ok (.invokevirtual 87, 3) := by decide +kernel
theorem dX7_rule_22 : decode cX7_rule 22 = .ok (.goto 4, 3) := by decide +kernel
theorem dX7_rule_25 : decode cX7_rule 25 = .ok (.iconst (-1), 1) := by decide +kernel
theorem dX7_rule_26 : decode cX7_rule 26 = .ok (.ireturn, 1) := by decide +kernel
set_option maxRecDepth 20000 in
theorem ggX7_marked_X7_isPlace : GoodIn wsX7_marked wsX7_isPlace := goodIn_r _ [4, 5, 6, 3, 7, 8, 9, 10, 11] (by decide +kernel) (by decide +kernel)
set_option maxRecDepth 20000 in
theorem gX7_marked_X7_isPlace : GoodIn wsX7_marked (va_wsS RX7 83 yX7_isPlace wsX7_isPlace) := goodIn_app (goodIn_of _ (by decide +kernel)) ggX7_marked_X7_isPlace
set_option maxRecDepth 20000 in
theorem ggX7_marked_X7_isMarked : GoodIn wsX7_marked wsX7_isMarked := goodIn_r _ [15, 16, 1, 2, 3, 4, 5, 6, 7, 8, 9, 10, 11, 17, 18, 19, 20, 21, 22, 23, 24, 25, 26, 27, 28, 29, 30, 31, 32, 33, 34, 35, 36, 37, 38, 39, 40, 41, 42, 43, 44, 45, 46, 47, 48, 49, 50, 51, 52, 53, 54, 55, 56, 57, 58, 59, 60, 61, 62, 63, 64, 65, 66, 67, 68, 69, 70, 71] (by decide +kernel) (by decide +kernel)
set_option maxRecDepth 20000 in
theorem gX7_marked_X7_isMarked : GoodIn wsX7_marked (wsV RX7 149 RX7 yX7_isMarked wsX7_isMarked) := goodIn_app (goodIn_of _ (by decide +kernel)) ggX7_marked_X7_isMarked
theorem dX7_marked_0 : decode cX7_marked 0 = .ok (.iload_n 1, 1) := by decide +kernel
theorem dX7_marked_1 : decode cX7_marked 1 = .ok (.iload_n 2, 1) := by decide +kernel
theorem dX7_marked_2 : decode cX7_marked 2 = .ok (.invokestatic 83, 3) := by decide +kernel
theorem dX7_marked_5 : decode cX7_marked 5 = .ok (.ifCond .eq 20, 3) := by decide +kernel
theorem dX7_marked_8 : decode cX7_marked 8 = .ok (.aload_n 0, 1) := by decide +kernel
theorem dX7_marked_9 : decode cX7_marked 9 = .ok (.iload_n 1, 1) := by decide +kernel
theorem dX7_marked_10 : decode cX7_marked 10 = .ok (.iload_n 2, 1) := by decide +kernel
theorem dX7_marked_11 : decode cX7_marked 11 = .ok (.invokevirtual 149, 3) := by decide +kernel
theorem dX7_marked_14 : decode cX7_marked 14 = .ok (.ifCond .eq 7, 3) := by decide +kernel
theorem dX7_marked_17 : decode cX7_marked 17 = .ok (.iconst 1, 1) := by decide +kernel
theorem dX7_marked_18 : decode cX7_marked 18 = .ok (.goto 8, 3) := by decide +kernel
theorem dX7_marked_21 : decode cX7_marked 21 = .ok (.iconst 0, 1) := by decide +kernel
theorem dX7_marked_22 : decode cX7_marked 22 = .ok (.goto 4, 3) := by decide +kernel
theorem dX7_marked_25 : decode cX7_marked 25 = .ok (.iconst (-1), 1) := by decide +kernel
theorem dX7_marked_26 : decode cX7_marked 26 = .ok (.ireturn, 1) := by decide +kernel
set_option maxRecDepth 20000 in
theorem ggX7_digit_X7_isIn : GoodIn wsX7_digit wsX7_isIn := goodIn_r _ [6] (by decide +kernel) (by decide +kernel)
set_option maxRecDepth 20000 in
theorem gX7_digit_X7_isIn : GoodIn wsX7_digit (va_wsS RX7 55 yX7_isIn wsX7_isIn) := goodIn_app (goodIn_of _ (by decide +kernel)) ggX7_digit_X7_isIn
theorem dX7_digit_0 : decode cX7_digit 0 = .ok (.iload_n 1, 1) := by decide +kernel
theorem dX7_digit_1 : decode cX7_digit 1 = .ok (.i2l, 1) := by decide +kernel
theorem dX7_digit_2 : decode cX7_digit 2 = .ok (.lconst 0, 1) := by decide +kernel
theorem dX7_digit_3 : decode cX7_digit 3 = .ok (.ldc2_w 155, 3) := by decide +kernel
theorem dX7_digit_6 : decode cX7_digit 6 = .ok (.invokestatic 55, 3) := by decide +kernel
theorem dX7_digit_9 : decode cX7_digit 9 = .ok (.ifCond .ne 6, 3) := by decide +kernel
theorem dX7_digit_12 : decode cX7_digit 12 = .ok (.bipush (-2), 2) := by decide +kernel
theorem dX7_digit_14 : decode cX7_digit 14 = .ok (.ireturn, 1) := by decide +kernel
theorem dX7_digit_15 : decode cX7_digit 15 = .ok (.iload_n 2, 1) := by decide +kernel
theorem dX7_digit_16 : decode cX7_digit 16 = .ok (.iconst (-1), 1) := by decide +kernel
theorem dX7_digit_17 : decode cX7_digit 17 = .ok (.if_icmp .ge 5, 3) := by decide +kernel
theorem dX7_digit_20 : decode cX7_digit 20 = .ok (.iconst (-1), 1) := by decide +kernel
theorem dX7_digit_21 : decode cX7_digit 21 = .ok (.ireturn, 1) := by decide +kernel
theorem dX7_digit_22 : decode cX7_digit 22 = .ok (.iconst 1, 1) := by decide +kernel
theorem dX7_digit_23 : decode cX7_digit 23 = .ok (.istore_n 3, 1) := by decide +kernel
theorem dX7_digit_24 : decode cX7_digit 24 = .ok (.iload_n 1, 1) := by decide +kernel
theorem dX7_digit_25 : decode cX7_digit 25 = .ok (.aload_n 0, 1) := by decide +kernel
theorem dX7_digit_26 : decode cX7_digit 26 = .ok (.getfield 11, 3) := by decide +kernel
theorem dX7_digit_29 : decode cX7_digit 29 = .ok (.iconst 0, 1) := by decide +kernel
theorem dX7_digit_30 : decode cX7_digit 30 = .ok (.iaload, 1) := by decide +kernel
theorem dX7_digit_31 : decode cX7_digit 31 = .ok (.idiv, 1) := by decide +kernel
theorem dX7_digit_32 : decode cX7_digit 32 = .ok (.istore 4, 2) := by decide +kernel
theorem dX7_digit_34 : decode cX7_digit 34 = .ok (.iload 4, 2) := by decide +kernel
theorem dX7_digit_36 : decode cX7_digit 36 = .ok (.ifCond .le 20, 3) := by decide +kernel
theorem dX7_digit_39 : decode cX7_digit 39 = .ok (.iinc 3 1, 3) := by decide +kernel
theorem dX7_digit_42 : decode cX7_digit 42 = .ok (.iload 4, 2) := by decide +kernel
theorem dX7_digit_44 : decode cX7_digit 44 = .ok (.aload_n 0, 1) := by decide +kernel
theorem dX7_digit_45 : decode cX7_digit 45 = .ok (.getfield 11, 3) := by decide +kernel
theorem dX7_digit_48 : decode cX7_digit 48 = .ok (.iconst 0, 1) := by decide +kernel
theorem dX7_digit_49 : decode cX7_digit 49 = .ok (.iaload, 1) := by decide +kernel
theorem dX7_digit_50 : decode cX7_digit 50 = .ok (.idiv, 1) := by decide +kernel
theorem dX7_digit_51 : decode cX7_digit 51 = .ok (.istore 4, 2) := by decide +kernel
theorem dX7_digit_53 : decode cX7_digit 53 = .ok (.goto (-19), 3) := by decide +kernel
theorem dX7_digit_56 : decode cX7_digit 56 = .ok (.iload_n 2, 1) := by decide +kernel
theorem dX7_digit_57 : decode cX7_digit 57 = .ok (.ifCond .ge 5, 3) := by decide +kernel
theorem dX7_digit_60 : decode cX7_digit 60 = .ok (.iload_n 3, 1) := by decide +kernel
theorem dX7_digit_61 : decode cX7_digit 61 = .ok (.ireturn, 1) := by decide +kernel
theorem dX7_digit_62 : decode cX7_digit 62 = .ok (.iload_n 1, 1) := by decide +kernel
theorem dX7_digit_63 : decode cX7_digit 63 = .ok (.istore 4, 2) := by decide +kernel
theorem dX7_digit_65 : decode cX7_digit 65 = .ok (.iconst 0, 1) := by decide +kernel
theorem dX7_digit_66 : decode cX7_digit 66 = .ok (.istore 5, 2) := by decide +kernel
theorem dX7_digit_68 : decode cX7_digit 68 = .ok (.iload 5, 2) := by decide +kernel
theorem dX7_digit_70 : decode cX7_digit 70 = .ok (.iload_n 2, 1) := by decide +kernel
theorem dX7_digit_71 : decode cX7_digit 71 = .ok (.if_icmp .ge 26, 3) := by decide +kernel
theorem dX7_digit_74 : decode cX7_digit 74 = .ok (.iload 5, 2) := by decide +kernel
theorem dX7_digit_76 : decode cX7_digit 76 = .ok (.iload_n 3, 1) := by decide +kernel
theorem dX7_digit_77 : decode cX7_digit 77 = .ok (.if_icmp .ge 20, 3) := by decide +kernel
theorem dX7_digit_80 : decode cX7_digit 80 = .ok (.iload 4, 2) := by decide +kernel
theorem dX7_digit_82 : decode cX7_digit 82 = .ok (.aload_n 0, 1) := by decide +kernel
theorem dX7_digit_83 : decode cX7_digit 83 = .ok (.getfield 11, 3) := by decide +kernel
theorem dX7_digit_86 : decode cX7_digit 86 = .ok (.iconst 0, 1) := by decide +kernel
theorem dX7_digit_87 : decode cX7_digit 87 = .ok (.iaload, 1) := by decide +kernel
theorem dX7_digit_88 : decode cX7_digit 88 = .ok (.idiv, 1) := by decide +kernel
theorem dX7_digit_89 : decode cX7_digit 89 = .ok (.istore 4, 2) := by decide +kernel
theorem dX7_digit_91 : decode cX7_digit 91 = .ok (.iinc 5 1, 3) := by decide +kernel
theorem dX7_digit_94 : decode cX7_digit 94 = .ok (.goto (-26), 3) := by decide +kernel
theorem dX7_digit_97 : decode cX7_digit 97 = .ok (.iload_n 2, 1) := by decide +kernel
theorem dX7_digit_98 : decode cX7_digit 98 = .ok (.iload_n 3, 1) := by decide +kernel
theorem dX7_digit_99 : decode cX7_digit 99 = .ok (.if_icmp .ge 15, 3) := by decide +kernel
theorem dX7_digit_102 : decode cX7_digit 102 = .ok (.iload 4, 2) := by decide +kernel
theorem dX7_digit_104 : decode cX7_digit 104 = .ok (.aload_n 0, 1) := by decide +kernel
theorem dX7_digit_105 : decode cX7_digit 105 = .ok (.getfield 11, 3) := by decide +kernel
theorem dX7_digit_108 : decode cX7_digit 108 = .ok (.iconst 0, 1) := by decide +kernel
theorem dX7_digit_109 : decode cX7_digit 109 = .ok (.iaload, 1) := by decide +kernel
theorem dX7_digit_110 : decode cX7_digit 110 = .ok (.irem, 1) := by decide +kernel
theorem dX7_digit_111 : decode cX7_digit 111 = .ok (.goto 5, 3) := by decide +kernel
theorem dX7_digit_114 : decode cX7_digit 114 = .ok (.bipush (-5), 2) := by decide +kernel
theorem dX7_digit_116 : decode cX7_digit 116 = .ok (.ireturn, 1) := by decide +kernel
set_option maxRecDepth 20000 in
theorem ggX7_pure_X7_isIn : GoodIn wsX7_pure wsX7_isIn := goodIn_r _ [6] (by decide +kernel) (by decide +kernel)
set_option maxRecDepth 20000 in
theorem gX7_pure_X7_isIn : GoodIn wsX7_pure (va_wsS RX7 55 yX7_isIn wsX7_isIn) := goodIn_app (goodIn_of _ (by decide +kernel)) ggX7_pure_X7_isIn
theorem dX7_pure_0 : decode cX7_pure 0 = .ok (.iload_n 1, 1) := by decide +kernel
theorem dX7_pure_1 : decode cX7_pure 1 = .ok (.i2l, 1) := by decide +kernel
theorem dX7_pure_2 : decode cX7_pure 2 = .ok (.lconst 1, 1) := by decide +kernel
theorem dX7_pure_3 : decode cX7_pure 3 = .ok (.ldc2_w 155, 3) := by decide +kernel
theorem dX7_pure_6 : decode cX7_pure 6 = .ok (.invokestatic 55, 3) := by decide +kernel
theorem dX7_pure_9 : decode cX7_pure 9 = .ok (.ifCond .ne 6, 3) := by decide +kernel
theorem dX7_pure_12 : decode cX7_pure 12 = .ok (.bipush (-2), 2) := by decide +kernel
theorem dX7_pure_14 : decode cX7_pure 14 = .ok (.ireturn, 1) := by decide +kernel
theorem dX7_pure_15 : decode cX7_pure 15 = .ok (.iload_n 2, 1) := by decide +kernel
theorem dX7_pure_16 : decode cX7_pure 16 = .ok (.i2l, 1) := by decide +kernel
theorem dX7_pure_17 : decode cX7_pure 17 = .ok (.lconst 0, 1) := by decide +kernel
theorem dX7_pure_18 : decode cX7_pure 18 = .ok (.lconst 1, 1) := by decide +kernel
theorem dX7_pure_19 : decode cX7_pure 19 = .ok (.invokestatic 55, 3) := by decide +kernel
theorem dX7_pure_22 : decode cX7_pure 22 = .ok (.ifCond .ne 5, 3) := by decide +kernel
theorem dX7_pure_25 : decode cX7_pure 25 = .ok (.iconst (-1), 1) := by decide +kernel
theorem dX7_pure_26 : decode cX7_pure 26 = .ok (.ireturn, 1) := by decide +kernel
theorem dX7_pure_27 : decode cX7_pure 27 = .ok (.iload_n 1, 1) := by decide +kernel
theorem dX7_pure_28 : decode cX7_pure 28 = .ok (.istore_n 3, 1) := by decide +kernel
theorem dX7_pure_29 : decode cX7_pure 29 = .ok (.iconst 0, 1) := by decide +kernel
theorem dX7_pure_30 : decode cX7_pure 30 = .ok (.istore 4, 2) := by decide +kernel
theorem dX7_pure_32 : decode cX7_pure 32 = .ok (.iload_n 3, 1) := by decide +kernel
theorem dX7_pure_33 : decode cX7_pure 33 = .ok (.aload_n 0, 1) := by decide +kernel
theorem dX7_pure_34 : decode cX7_pure 34 = .ok (.getfield 11, 3) := by decide +kernel
theorem dX7_pure_37 : decode cX7_pure 37 = .ok (.iconst 0, 1) := by decide +kernel
theorem dX7_pure_38 : decode cX7_pure 38 = .ok (.iaload, 1) := by decide +kernel
theorem dX7_pure_39 : decode cX7_pure 39 = .ok (.irem, 1) := by decide +kernel
theorem dX7_pure_40 : decode cX7_pure 40 = .ok (.ifCond .ne 18, 3) := by decide +kernel
theorem dX7_pure_43 : decode cX7_pure 43 = .ok (.iload_n 3, 1) := by decide +kernel
theorem dX7_pure_44 : decode cX7_pure 44 = .ok (.aload_n 0, 1) := by decide +kernel
theorem dX7_pure_45 : decode cX7_pure 45 = .ok (.getfield 11, 3) := by decide +kernel
theorem dX7_pure_48 : decode cX7_pure 48 = .ok (.iconst 0, 1) := by decide +kernel
theorem dX7_pure_49 : decode cX7_pure 49 = .ok (.iaload, 1) := by decide +kernel
theorem dX7_pure_50 : decode cX7_pure 50 = .ok (.idiv, 1) := by decide +kernel
theorem dX7_pure_51 : decode cX7_pure 51 = .ok (.istore_n 3, 1) := by decide +kernel
theorem dX7_pure_52 : decode cX7_pure 52 = .ok (.iinc 4 1, 3) := by decide +kernel
theorem dX7_pure_55 : decode cX7_pure 55 = .ok (.goto (-23), 3) := by decide +kernel
theorem dX7_pure_58 : decode cX7_pure 58 = .ok (.iload_n 2, 1) := by decide +kernel
theorem dX7_pure_59 : decode cX7_pure 59 = .ok (.ifCond .ne 7, 3) := by decide +kernel
theorem dX7_pure_62 : decode cX7_pure 62 = .ok (.iload_n 3, 1) := by decide +kernel
theorem dX7_pure_63 : decode cX7_pure 63 = .ok (.goto 5, 3) := by decide +kernel
theorem dX7_pure_66 : decode cX7_pure 66 = .ok (.iload 4, 2) := by decide +kernel
theorem dX7_pure_68 : decode cX7_pure 68 = .ok (.ireturn, 1) := by decide +kernel
set_option maxRecDepth 20000 in
theorem ggX7_countOf_X7_remainder : GoodIn wsX7_countOf wsX7_remainder := goodIn_r _ [5, 6, 7, 8, 9, 10, 4, 11, 12, 13, 14, 15, 16, 17, 18, 19, 20, 21, 22, 23, 24, 25, 26, 27, 28, 29, 30, 31, 32, 33, 34, 35, 36, 37, 38] (by decide +kernel) (by decide +kernel)
set_option maxRecDepth 20000 in
theorem gX7_countOf_X7_remainder : GoodIn wsX7_countOf (wsV RX7 62 RX7 yX7_remainder wsX7_remainder) := goodIn_app (goodIn_of _ (by decide +kernel)) ggX7_countOf_X7_remainder
theorem dX7_countOf_0 : decode cX7_countOf 0 = .ok (.iconst 0, 1) := by decide +kernel
theorem dX7_countOf_1 : decode cX7_countOf 1 = .ok (.istore_n 3, 1) := by decide +kernel
theorem dX7_countOf_2 : decode cX7_countOf 2 = .ok (.iconst 0, 1) := by decide +kernel
theorem dX7_countOf_3 : decode cX7_countOf 3 = .ok (.istore 4, 2) := by decide +kernel
theorem dX7_countOf_5 : decode cX7_countOf 5 = .ok (.iload 4, 2) := by decide +kernel
theorem dX7_countOf_7 : decode cX7_countOf 7 = .ok (.iload_n 1, 1) := by decide +kernel
theorem dX7_countOf_8 : decode cX7_countOf 8 = .ok (.if_icmp .gt 28, 3) := by decide +kernel
theorem dX7_countOf_11 : decode cX7_countOf 11 = .ok (.iload_n 3, 1) := by decide +kernel
theorem dX7_countOf_12 : decode cX7_countOf 12 = .ok (.aload_n 0, 1) := by decide +kernel
theorem dX7_countOf_13 : decode cX7_countOf 13 = .ok (.iload_n 1, 1) := by decide +kernel
theorem dX7_countOf_14 : decode cX7_countOf 14 = .ok (.iload 4, 2) := by decide +kernel
theorem dX7_countOf_16 : decode cX7_countOf 16 = .ok (.invokevirtual 62, 3) := by decide +kernel
theorem dX7_countOf_19 : decode cX7_countOf 19 = .ok (.iload_n 2, 1) := by decide +kernel
theorem dX7_countOf_20 : decode cX7_countOf 20 = .ok (.if_icmp .ne 7, 3) := by decide +kernel
theorem dX7_countOf_23 : decode cX7_countOf 23 = .ok (.iconst 1, 1) := by decide +kernel
theorem dX7_countOf_24 : decode cX7_countOf 24 = .ok (.goto 4, 3) := by decide +kernel
theorem dX7_countOf_27 : decode cX7_countOf 27 = .ok (.iconst 0, 1) := by decide +kernel
theorem dX7_countOf_28 : decode cX7_countOf 28 = .ok (.iadd, 1) := by decide +kernel
theorem dX7_countOf_29 : decode cX7_countOf 29 = .ok (.istore_n 3, 1) := by decide +kernel
theorem dX7_countOf_30 : decode cX7_countOf 30 = .ok (.iinc 4 1, 3) := by decide +kernel
theorem dX7_countOf_33 : decode cX7_countOf 33 = .ok (.goto (-28), 3) := by decide +kernel
theorem dX7_countOf_36 : decode cX7_countOf 36 = .ok (.iload_n 3, 1) := by decide +kernel
theorem dX7_countOf_37 : decode cX7_countOf 37 = .ok (.ireturn, 1) := by decide +kernel
set_option maxRecDepth 20000 in
theorem ggX7_counted_X7_isRow : GoodIn wsX7_counted wsX7_isRow := goodIn_r _ [4, 5, 6, 7, 3, 8] (by decide +kernel) (by decide +kernel)
set_option maxRecDepth 20000 in
theorem gX7_counted_X7_isRow : GoodIn wsX7_counted (va_wsS RX7 77 yX7_isRow wsX7_isRow) := goodIn_app (goodIn_of _ (by decide +kernel)) ggX7_counted_X7_isRow
set_option maxRecDepth 20000 in
theorem ggX7_counted_X7_countOf : GoodIn wsX7_counted wsX7_countOf := goodIn_r _ [12, 13, 14, 15, 3, 16, 5, 17, 18, 19, 20, 21, 22, 23, 24, 25, 26, 27, 28, 29, 30, 6, 7, 8, 31, 32, 33, 34, 35, 36, 37, 38, 39, 40, 41, 42, 43, 44, 45] (by decide +kernel) (by decide +kernel)
set_option maxRecDepth 20000 in
theorem gX7_counted_X7_countOf : GoodIn wsX7_counted (wsV RX7 157 RX7 yX7_countOf wsX7_countOf) := goodIn_app (goodIn_of _ (by decide +kernel)) ggX7_counted_X7_countOf
theorem dX7_counted_0 : decode cX7_counted 0 = .ok (.iload_n 1, 1) := by decide +kernel
theorem dX7_counted_1 : decode cX7_counted 1 = .ok (.invokestatic 77, 3) := by decide +kernel
theorem dX7_counted_4 : decode cX7_counted 4 = .ok (.ifCond .eq 12, 3) := by decide +kernel
theorem dX7_counted_7 : decode cX7_counted 7 = .ok (.aload_n 0, 1) := by decide +kernel
theorem dX7_counted_8 : decode cX7_counted 8 = .ok (.iload_n 1, 1) := by decide +kernel
theorem dX7_counted_9 : decode cX7_counted 9 = .ok (.iload_n 2, 1) := by decide +kernel
theorem dX7_counted_10 : decode cX7_counted 10 = .ok (.invokevirtual 157, 3) := by decide +kernel
theorem dX7_counted_13 : decode cX7_counted 13 = .ok (.goto 4, 3) := by decide +kernel
theorem dX7_counted_16 : decode cX7_counted 16 = .ok (.iconst (-1), 1) := by decide +kernel
theorem dX7_counted_17 : decode cX7_counted 17 = .ok (.ireturn, 1) := by decide +kernel
set_option maxRecDepth 20000 in
theorem ggX7_sumOf_X7_remainder : GoodIn wsX7_sumOf wsX7_remainder := goodIn_r _ [5, 6, 7, 8, 9, 10, 4, 11, 12, 13, 14, 15, 16, 17, 18, 19, 20, 21, 22, 23, 24, 25, 26, 27, 28, 29, 30, 31, 32, 33, 34, 35, 36, 37, 38] (by decide +kernel) (by decide +kernel)
set_option maxRecDepth 20000 in
theorem gX7_sumOf_X7_remainder : GoodIn wsX7_sumOf (wsV RX7 62 RX7 yX7_remainder wsX7_remainder) := goodIn_app (goodIn_of _ (by decide +kernel)) ggX7_sumOf_X7_remainder
theorem dX7_sumOf_0 : decode cX7_sumOf 0 = .ok (.iconst 0, 1) := by decide +kernel
theorem dX7_sumOf_1 : decode cX7_sumOf 1 = .ok (.istore_n 2, 1) := by decide +kernel
theorem dX7_sumOf_2 : decode cX7_sumOf 2 = .ok (.iconst 0, 1) := by decide +kernel
theorem dX7_sumOf_3 : decode cX7_sumOf 3 = .ok (.istore_n 3, 1) := by decide +kernel
theorem dX7_sumOf_4 : decode cX7_sumOf 4 = .ok (.iload_n 3, 1) := by decide +kernel
theorem dX7_sumOf_5 : decode cX7_sumOf 5 = .ok (.iload_n 1, 1) := by decide +kernel
theorem dX7_sumOf_6 : decode cX7_sumOf 6 = .ok (.if_icmp .gt 18, 3) := by decide +kernel
theorem dX7_sumOf_9 : decode cX7_sumOf 9 = .ok (.iload_n 2, 1) := by decide +kernel
theorem dX7_sumOf_10 : decode cX7_sumOf 10 = .ok (.aload_n 0, 1) := by decide +kernel
theorem dX7_sumOf_11 : decode cX7_sumOf 11 = .ok (.iload_n 1, 1) := by decide +kernel
theorem dX7_sumOf_12 : decode cX7_sumOf 12 = .ok (.iload_n 3, 1) := by decide +kernel
theorem dX7_sumOf_13 : decode cX7_sumOf 13 = .ok (.invokevirtual 62, 3) := by decide +kernel
theorem dX7_sumOf_16 : decode cX7_sumOf 16 = .ok (.iadd, 1) := by decide +kernel
theorem dX7_sumOf_17 : decode cX7_sumOf 17 = .ok (.istore_n 2, 1) := by decide +kernel
theorem dX7_sumOf_18 : decode cX7_sumOf 18 = .ok (.iinc 3 1, 3) := by decide +kernel
theorem dX7_sumOf_21 : decode cX7_sumOf 21 = .ok (.goto (-17), 3) := by decide +kernel
theorem dX7_sumOf_24 : decode cX7_sumOf 24 = .ok (.iload_n 2, 1) := by decide +kernel
theorem dX7_sumOf_25 : decode cX7_sumOf 25 = .ok (.ireturn, 1) := by decide +kernel
set_option maxRecDepth 20000 in
theorem ggX7_row_X7_isRow : GoodIn wsX7_row wsX7_isRow := goodIn_r _ [9, 10, 11, 12, 8, 13] (by decide +kernel) (by decide +kernel)
set_option maxRecDepth 20000 in
theorem gX7_row_X7_isRow : GoodIn wsX7_row (va_wsS RX7 77 yX7_isRow wsX7_isRow) := goodIn_app (goodIn_of _ (by decide +kernel)) ggX7_row_X7_isRow
set_option maxRecDepth 20000 in
theorem ggX7_row_X7_isIn : GoodIn wsX7_row wsX7_isIn := goodIn_r _ [13] (by decide +kernel) (by decide +kernel)
set_option maxRecDepth 20000 in
theorem gX7_row_X7_isIn : GoodIn wsX7_row (va_wsS RX7 55 yX7_isIn wsX7_isIn) := goodIn_app (goodIn_of _ (by decide +kernel)) ggX7_row_X7_isIn
set_option maxRecDepth 20000 in
theorem ggX7_row_X7_sumOf : GoodIn wsX7_row wsX7_sumOf := goodIn_r _ [17, 18, 19, 20, 8, 21, 10, 22, 23, 24, 25, 26, 27, 28, 29, 30, 31, 32, 33, 34, 35, 11, 12, 13, 44, 45, 46, 47, 48, 49, 50, 51, 52, 53, 54, 55, 56, 57, 58] (by decide +kernel) (by decide +kernel)
set_option maxRecDepth 20000 in
theorem gX7_row_X7_sumOf : GoodIn wsX7_row (wsV RX7 162 RX7 yX7_sumOf wsX7_sumOf) := goodIn_app (goodIn_of _ (by decide +kernel)) ggX7_row_X7_sumOf
set_option maxRecDepth 20000 in
theorem ggX7_row_X7_modulus : GoodIn wsX7_row wsX7_modulus := goodIn_r _ [26, 27, 28, 29, 8, 30, 44, 45, 46, 47, 48, 49, 50, 51, 52, 53, 54, 55, 56, 57, 58] (by decide +kernel) (by decide +kernel)
set_option maxRecDepth 20000 in
theorem gX7_row_X7_modulus : GoodIn wsX7_row (wsV RX7 45 RX7 yX7_modulus wsX7_modulus) := goodIn_app (goodIn_of _ (by decide +kernel)) ggX7_row_X7_modulus
set_option maxRecDepth 20000 in
theorem ggX7_row_X7_countOf : GoodIn wsX7_row wsX7_countOf := goodIn_r _ [39, 18, 19, 20, 8, 21, 10, 22, 23, 24, 25, 26, 27, 28, 29, 30, 31, 32, 33, 34, 35, 11, 12, 13, 44, 45, 46, 47, 48, 49, 50, 51, 52, 53, 54, 55, 56, 57, 58] (by decide +kernel) (by decide +kernel)
set_option maxRecDepth 20000 in
theorem gX7_row_X7_countOf : GoodIn wsX7_row (wsV RX7 157 RX7 yX7_countOf wsX7_countOf) := goodIn_app (goodIn_of _ (by decide +kernel)) ggX7_row_X7_countOf
set_option maxRecDepth 20000 in
theorem ggX7_row_X7_carries : GoodIn wsX7_row wsX7_carries := goodIn_r _ [43, 27, 44, 45, 46, 47, 48, 49, 50, 51, 52, 53, 54, 55, 56, 57, 58] (by decide +kernel) (by decide +kernel)
set_option maxRecDepth 20000 in
theorem gX7_row_X7_carries : GoodIn wsX7_row (wsV RX7 68 RX7 yX7_carries wsX7_carries) := goodIn_app (goodIn_of _ (by decide +kernel)) ggX7_row_X7_carries
theorem dX7_row_0 : decode cX7_row 0 = .ok (.iload_n 1, 1) := by decide +kernel
theorem dX7_row_1 : decode cX7_row 1 = .ok (.invokestatic 77, 3) := by decide +kernel
theorem dX7_row_4 : decode cX7_row 4 = .ok (.ifCond .eq 15, 3) := by decide +kernel
theorem dX7_row_7 : decode cX7_row 7 = .ok (.iload_n 2, 1) := by decide +kernel
theorem dX7_row_8 : decode cX7_row 8 = .ok (.i2l, 1) := by decide +kernel
theorem dX7_row_9 : decode cX7_row 9 = .ok (.lconst 0, 1) := by decide +kernel
theorem dX7_row_10 : decode cX7_row 10 = .ok (.ldc2_w 160, 3) := by decide +kernel
theorem dX7_row_13 : decode cX7_row 13 = .ok (.invokestatic 55, 3) := by decide +kernel
theorem dX7_row_16 : decode cX7_row 16 = .ok (.ifCond .ne 5, 3) := by decide +kernel
theorem dX7_row_19 : decode cX7_row 19 = .ok (.iconst (-1), 1) := by decide +kernel
theorem dX7_row_20 : decode cX7_row 20 = .ok (.ireturn, 1) := by decide +kernel
theorem dX7_row_21 : decode cX7_row 21 = .ok (.iload_n 2, 1) := by decide +kernel
theorem dX7_row_22 : decode cX7_row 22 = .ok (.iconst 2, 1) := by decide +kernel
theorem dX7_row_23 : decode cX7_row 23 = .ok (.if_icmp .ne 9, 3) := by decide +kernel
theorem dX7_row_26 : decode cX7_row 26 = .ok (.aload_n 0, 1) := by decide +kernel
theorem dX7_row_27 : decode cX7_row 27 = .ok (.iload_n 1, 1) := by decide +kernel
theorem dX7_row_28 : decode cX7_row 28 = .ok (.invokevirtual 162, 3) := by decide +kernel
theorem dX7_row_31 : decode cX7_row 31 = .ok (.ireturn, 1) := by decide +kernel
theorem dX7_row_32 : decode cX7_row 32 = .ok (.iconst 0, 1) := by decide +kernel
theorem dX7_row_33 : decode cX7_row 33 = .ok (.istore_n 3, 1) := by decide +kernel
theorem dX7_row_34 : decode cX7_row 34 = .ok (.iconst 0, 1) := by decide +kernel
theorem dX7_row_35 : decode cX7_row 35 = .ok (.istore 4, 2) := by decide +kernel
theorem dX7_row_37 : decode cX7_row 37 = .ok (.iconst 0, 1) := by decide +kernel
theorem dX7_row_38 : decode cX7_row 38 = .ok (.istore 5, 2) := by decide +kernel
theorem dX7_row_40 : decode cX7_row 40 = .ok (.iconst 0, 1) := by decide +kernel
theorem dX7_row_41 : decode cX7_row 41 = .ok (.istore 6, 2) := by decide +kernel
theorem dX7_row_43 : decode cX7_row 43 = .ok (.iconst 0, 1) := by decide +kernel
theorem dX7_row_44 : decode cX7_row 44 = .ok (.istore 7, 2) := by decide +kernel
theorem dX7_row_46 : decode cX7_row 46 = .ok (.iload 7, 2) := by decide +kernel
theorem dX7_row_48 : decode cX7_row 48 = .ok (.aload_n 0, 1) := by decide +kernel
theorem dX7_row_49 : decode cX7_row 49 = .ok (.invokevirtual 45, 3) := by decide +kernel
theorem dX7_row_52 : decode cX7_row 52 = .ok (.if_icmp .ge 61, 3) := by decide +kernel
theorem dX7_row_55 : decode cX7_row 55 = .ok (.iload_n 2, 1) := by decide +kernel
theorem dX7_row_56 : decode cX7_row 56 = .ok (.iconst 2, 1) := by decide +kernel
theorem dX7_row_57 : decode cX7_row 57 = .ok (.if_icmp .ge 56, 3) := by decide +kernel
theorem dX7_row_60 : decode cX7_row 60 = .ok (.aload_n 0, 1) := by decide +kernel
theorem dX7_row_61 : decode cX7_row 61 = .ok (.iload_n 1, 1) := by decide +kernel
theorem dX7_row_62 : decode cX7_row 62 = .ok (.iload 7, 2) := by decide +kernel
theorem dX7_row_64 : decode cX7_row 64 = .ok (.invokevirtual 157, 3) := by decide +kernel
theorem dX7_row_67 : decode cX7_row 67 = .ok (.istore 8, 2) := by decide +kernel
theorem dX7_row_69 : decode cX7_row 69 = .ok (.iload_n 3, 1) := by decide +kernel
theorem dX7_row_70 : decode cX7_row 70 = .ok (.iload 8, 2) := by decide +kernel
theorem dX7_row_72 : decode cX7_row 72 = .ok (.ifCond .le 7, 3) := by decide +kernel
theorem dX7_row_75 : decode cX7_row 75 = .ok (.iconst 1, 1) := by decide +kernel
theorem dX7_row_76 : decode cX7_row 76 = .ok (.goto 4, 3) := by decide +kernel
theorem dX7_row_79 : decode cX7_row 79 = .ok (.iconst 0, 1) := by decide +kernel
theorem dX7_row_80 : decode cX7_row 80 = .ok (.iadd, 1) := by decide +kernel
theorem dX7_row_81 : decode cX7_row 81 = .ok (.istore_n 3, 1) := by decide +kernel
theorem dX7_row_82 : decode cX7_row 82 = .ok (.iload 8, 2) := by decide +kernel
theorem dX7_row_84 : decode cX7_row 84 = .ok (.iload 5, 2) := by decide +kernel
theorem dX7_row_86 : decode cX7_row 86 = .ok (.if_icmp .le 8, 3) := by decide +kernel
theorem dX7_row_89 : decode cX7_row 89 = .ok (.iload 7, 2) := by decide +kernel
theorem dX7_row_91 : decode cX7_row 91 = .ok (.goto 5, 3) := by decide +kernel
theorem dX7_row_94 : decode cX7_row 94 = .ok (.iload 4, 2) := by decide +kernel
theorem dX7_row_96 : decode cX7_row 96 = .ok (.istore 4, 2) := by decide +kernel
theorem dX7_row_98 : decode cX7_row 98 = .ok (.iload 5, 2) := by decide +kernel
theorem dX7_row_100 : decode cX7_row 100 = .ok (.iload 8, 2) := by decide +kernel
theorem dX7_row_102 : decode cX7_row 102 = .ok (.invokestatic 165, 3) := by decide +kernel
theorem dX7_row_105 : decode cX7_row 105 = .ok (.istore 5, 2) := by decide +kernel
theorem dX7_row_107 : decode cX7_row 107 = .ok (.iinc 7 1, 3) := by decide +kernel
theorem dX7_row_110 : decode cX7_row 110 = .ok (.goto (-64), 3) := by decide +kernel
theorem dX7_row_113 : decode cX7_row 113 = .ok (.iconst 0, 1) := by decide +kernel
theorem dX7_row_114 : decode cX7_row 114 = .ok (.istore 7, 2) := by decide +kernel
theorem dX7_row_116 : decode cX7_row 116 = .ok (.iload 7, 2) := by decide +kernel
theorem dX7_row_118 : decode cX7_row 118 = .ok (.iload_n 1, 1) := by decide +kernel
theorem dX7_row_119 : decode cX7_row 119 = .ok (.if_icmp .gt 23, 3) := by decide +kernel
theorem dX7_row_122 : decode cX7_row 122 = .ok (.iload 6, 2) := by decide +kernel
theorem dX7_row_124 : decode cX7_row 124 = .ok (.aload_n 0, 1) := by decide +kernel
theorem dX7_row_125 : decode cX7_row 125 = .ok (.iload_n 1, 1) := by decide +kernel
theorem dX7_row_126 : decode cX7_row 126 = .ok (.iload 7, 2) := by decide +kernel
theorem dX7_row_128 : decode cX7_row 128 = .ok (.invokevirtual 68, 3) := by decide +kernel
theorem dX7_row_131 : decode cX7_row 131 = .ok (.invokestatic 165, 3) := by decide +kernel
theorem dX7_row_134 : decode cX7_row 134 = .ok (.istore 6, 2) := by decide +kernel
theorem dX7_row_136 : decode cX7_row 136 = .ok (.iinc 7 1, 3) := by decide +kernel
theorem dX7_row_139 : decode cX7_row 139 = .ok (.goto (-23), 3) := by decide +kernel
theorem dX7_row_142 : decode cX7_row 142 = .ok (.iload_n 2, 1) := by decide +kernel
theorem dX7_row_143 : decode cX7_row 143 = .ok (.ifCond .ne 7, 3) := by decide +kernel
theorem dX7_row_146 : decode cX7_row 146 = .ok (.iload_n 3, 1) := by decide +kernel
theorem dX7_row_147 : decode cX7_row 147 = .ok (.goto 15, 3) := by decide +kernel
theorem dX7_row_150 : decode cX7_row 150 = .ok (.iload_n 2, 1) := by decide +kernel
theorem dX7_row_151 : decode cX7_row 151 = .ok (.iconst 1, 1) := by decide +kernel
theorem dX7_row_152 : decode cX7_row 152 = .ok (.if_icmp .ne 8, 3) := by decide +kernel
theorem dX7_row_155 : decode cX7_row 155 = .ok (.iload 4, 2) := by decide +kernel
theorem dX7_row_157 : decode cX7_row 157 = .ok (.goto 5, 3) := by decide +kernel
theorem dX7_row_160 : decode cX7_row 160 = .ok (.iload 6, 2) := by decide +kernel
theorem dX7_row_162 : decode cX7_row 162 = .ok (.ireturn, 1) := by decide +kernel
set_option maxRecDepth 20000 in
theorem ggX7_kind_X7_isRow : GoodIn wsX7_kind wsX7_isRow := goodIn_r _ [4, 5, 6, 7, 3, 8] (by decide +kernel) (by decide +kernel)
set_option maxRecDepth 20000 in
theorem gX7_kind_X7_isRow : GoodIn wsX7_kind (va_wsS RX7 77 yX7_isRow wsX7_isRow) := goodIn_app (goodIn_of _ (by decide +kernel)) ggX7_kind_X7_isRow
set_option maxRecDepth 20000 in
theorem ggX7_kind_X7_modulus : GoodIn wsX7_kind wsX7_modulus := goodIn_r _ [12, 13, 14, 15, 3, 16, 31, 32, 33, 34, 35, 36, 37, 38, 39, 40, 41, 42, 43, 44, 45] (by decide +kernel) (by decide +kernel)
set_option maxRecDepth 20000 in
theorem gX7_kind_X7_modulus : GoodIn wsX7_kind (wsV RX7 45 RX7 yX7_modulus wsX7_modulus) := goodIn_app (goodIn_of _ (by decide +kernel)) ggX7_kind_X7_modulus
set_option maxRecDepth 20000 in
theorem ggX7_kind_X7_countOf : GoodIn wsX7_kind wsX7_countOf := goodIn_r _ [20, 21, 22, 23, 3, 24, 5, 25, 9, 10, 11, 12, 13, 14, 15, 16, 26, 27, 28, 29, 30, 6, 7, 8, 31, 32, 33, 34, 35, 36, 37, 38, 39, 40, 41, 42, 43, 44, 45] (by decide +kernel) (by decide +kernel)
set_option maxRecDepth 20000 in
theorem gX7_kind_X7_countOf : GoodIn wsX7_kind (wsV RX7 157 RX7 yX7_countOf wsX7_countOf) := goodIn_app (goodIn_of _ (by decide +kernel)) ggX7_kind_X7_countOf
theorem dX7_kind_0 : decode cX7_kind 0 = .ok (.iload_n 1, 1) := by decide +kernel
theorem dX7_kind_1 : decode cX7_kind 1 = .ok (.invokestatic 77, 3) := by decide +kernel
theorem dX7_kind_4 : decode cX7_kind 4 = .ok (.ifCond .eq 7, 3) := by decide +kernel
theorem dX7_kind_7 : decode cX7_kind 7 = .ok (.iload_n 2, 1) := by decide +kernel
theorem dX7_kind_8 : decode cX7_kind 8 = .ok (.ifCond .ge 5, 3) := by decide +kernel
theorem dX7_kind_11 : decode cX7_kind 11 = .ok (.iconst (-1), 1) := by decide +kernel
theorem dX7_kind_12 : decode cX7_kind 12 = .ok (.ireturn, 1) := by decide +kernel
theorem dX7_kind_13 : decode cX7_kind 13 = .ok (.iload_n 2, 1) := by decide +kernel
theorem dX7_kind_14 : decode cX7_kind 14 = .ok (.istore_n 3, 1) := by decide +kernel
theorem dX7_kind_15 : decode cX7_kind 15 = .ok (.iconst 0, 1) := by decide +kernel
theorem dX7_kind_16 : decode cX7_kind 16 = .ok (.istore 4, 2) := by decide +kernel
theorem dX7_kind_18 : decode cX7_kind 18 = .ok (.iload 4, 2) := by decide +kernel
theorem dX7_kind_20 : decode cX7_kind 20 = .ok (.aload_n 0, 1) := by decide +kernel
theorem dX7_kind_21 : decode cX7_kind 21 = .ok (.invokevirtual 45, 3) := by decide +kernel
theorem dX7_kind_24 : decode cX7_kind 24 = .ok (.if_icmp .ge 29, 3) := by decide +kernel
theorem dX7_kind_27 : decode cX7_kind 27 = .ok (.aload_n 0, 1) := by decide +kernel
theorem dX7_kind_28 : decode cX7_kind 28 = .ok (.iload_n 1, 1) := by decide +kernel
theorem dX7_kind_29 : decode cX7_kind 29 = .ok (.iload 4, 2) := by decide +kernel
theorem dX7_kind_31 : decode cX7_kind 31 = .ok (.invokevirtual 157, 3) := by decide +kernel
theorem dX7_kind_34 : decode cX7_kind 34 = .ok (.ifCond .le 13, 3) := by decide +kernel
theorem dX7_kind_37 : decode cX7_kind 37 = .ok (.iload_n 3, 1) := by decide +kernel
theorem dX7_kind_38 : decode cX7_kind 38 = .ok (.ifCond .ne 6, 3) := by decide +kernel
theorem dX7_kind_41 : decode cX7_kind 41 = .ok (.iload 4, 2) := by decide +kernel
theorem dX7_kind_43 : decode cX7_kind 43 = .ok (.ireturn, 1) := by decide +kernel
theorem dX7_kind_44 : decode cX7_kind 44 = .ok (.iinc 3 (-1), 3) := by decide +kernel
theorem dX7_kind_47 : decode cX7_kind 47 = .ok (.iinc 4 1, 3) := by decide +kernel
theorem dX7_kind_50 : decode cX7_kind 50 = .ok (.goto (-32), 3) := by decide +kernel
theorem dX7_kind_53 : decode cX7_kind 53 = .ok (.bipush (-5), 2) := by decide +kernel
theorem dX7_kind_55 : decode cX7_kind 55 = .ok (.ireturn, 1) := by decide +kernel
set_option maxRecDepth 20000 in
theorem ggX7_upTo_X7_isRow : GoodIn wsX7_upTo wsX7_isRow := goodIn_r _ [5, 6, 7, 8, 4, 9] (by decide +kernel) (by decide +kernel)
set_option maxRecDepth 20000 in
theorem gX7_upTo_X7_isRow : GoodIn wsX7_upTo (va_wsS RX7 77 yX7_isRow wsX7_isRow) := goodIn_app (goodIn_of _ (by decide +kernel)) ggX7_upTo_X7_isRow
set_option maxRecDepth 20000 in
theorem ggX7_upTo_X7_isIn : GoodIn wsX7_upTo wsX7_isIn := goodIn_r _ [9] (by decide +kernel) (by decide +kernel)
set_option maxRecDepth 20000 in
theorem gX7_upTo_X7_isIn : GoodIn wsX7_upTo (va_wsS RX7 55 yX7_isIn wsX7_isIn) := goodIn_app (goodIn_of _ (by decide +kernel)) ggX7_upTo_X7_isIn
set_option maxRecDepth 20000 in
theorem ggX7_upTo_X7_countOf : GoodIn wsX7_upTo wsX7_countOf := goodIn_r _ [13, 14, 15, 16, 4, 17, 6, 18, 19, 20, 21, 22, 23, 24, 25, 26, 27, 28, 29, 30, 31, 7, 8, 9, 32, 33, 34, 35, 36, 37, 38, 39, 40, 41, 42, 43, 44, 45, 46] (by decide +kernel) (by decide +kernel)
set_option maxRecDepth 20000 in
theorem gX7_upTo_X7_countOf : GoodIn wsX7_upTo (wsV RX7 157 RX7 yX7_countOf wsX7_countOf) := goodIn_app (goodIn_of _ (by decide +kernel)) ggX7_upTo_X7_countOf
theorem dX7_upTo_0 : decode cX7_upTo 0 = .ok (.iload_n 1, 1) := by decide +kernel
theorem dX7_upTo_1 : decode cX7_upTo 1 = .ok (.invokestatic 77, 3) := by decide +kernel
theorem dX7_upTo_4 : decode cX7_upTo 4 = .ok (.ifCond .eq 15, 3) := by decide +kernel
theorem dX7_upTo_7 : decode cX7_upTo 7 = .ok (.iload_n 2, 1) := by decide +kernel
theorem dX7_upTo_8 : decode cX7_upTo 8 = .ok (.i2l, 1) := by decide +kernel
theorem dX7_upTo_9 : decode cX7_upTo 9 = .ok (.lconst 0, 1) := by decide +kernel
theorem dX7_upTo_10 : decode cX7_upTo 10 = .ok (.ldc2_w 170, 3) := by decide +kernel
theorem dX7_upTo_13 : decode cX7_upTo 13 = .ok (.invokestatic 55, 3) := by decide +kernel
theorem dX7_upTo_16 : decode cX7_upTo 16 = .ok (.ifCond .ne 5, 3) := by decide +kernel
theorem dX7_upTo_19 : decode cX7_upTo 19 = .ok (.iconst (-1), 1) := by decide +kernel
theorem dX7_upTo_20 : decode cX7_upTo 20 = .ok (.ireturn, 1) := by decide +kernel
theorem dX7_upTo_21 : decode cX7_upTo 21 = .ok (.iconst 0, 1) := by decide +kernel
theorem dX7_upTo_22 : decode cX7_upTo 22 = .ok (.istore_n 3, 1) := by decide +kernel
theorem dX7_upTo_23 : decode cX7_upTo 23 = .ok (.iconst 0, 1) := by decide +kernel
theorem dX7_upTo_24 : decode cX7_upTo 24 = .ok (.istore 4, 2) := by decide +kernel
theorem dX7_upTo_26 : decode cX7_upTo 26 = .ok (.iconst 0, 1) := by decide +kernel
theorem dX7_upTo_27 : decode cX7_upTo 27 = .ok (.istore 5, 2) := by decide +kernel
theorem dX7_upTo_29 : decode cX7_upTo 29 = .ok (.iconst 0, 1) := by decide +kernel
theorem dX7_upTo_30 : decode cX7_upTo 30 = .ok (.istore 6, 2) := by decide +kernel
theorem dX7_upTo_32 : decode cX7_upTo 32 = .ok (.iload 6, 2) := by decide +kernel
theorem dX7_upTo_34 : decode cX7_upTo 34 = .ok (.iload_n 1, 1) := by decide +kernel
theorem dX7_upTo_35 : decode cX7_upTo 35 = .ok (.if_icmp .gt 66, 3) := by decide +kernel
theorem dX7_upTo_38 : decode cX7_upTo 38 = .ok (.aload_n 0, 1) := by decide +kernel
theorem dX7_upTo_39 : decode cX7_upTo 39 = .ok (.iload 6, 2) := by decide +kernel
theorem dX7_upTo_41 : decode cX7_upTo 41 = .ok (.iconst 0, 1) := by decide +kernel
theorem dX7_upTo_42 : decode cX7_upTo 42 = .ok (.invokevirtual 157, 3) := by decide +kernel
theorem dX7_upTo_45 : decode cX7_upTo 45 = .ok (.istore 7, 2) := by decide +kernel
theorem dX7_upTo_47 : decode cX7_upTo 47 = .ok (.iload_n 3, 1) := by decide +kernel
theorem dX7_upTo_48 : decode cX7_upTo 48 = .ok (.iload 7, 2) := by decide +kernel
theorem dX7_upTo_50 : decode cX7_upTo 50 = .ok (.ifCond .ne 7, 3) := by decide +kernel
theorem dX7_upTo_53 : decode cX7_upTo 53 = .ok (.iconst 1, 1) := by decide +kernel
theorem dX7_upTo_54 : decode cX7_upTo 54 = .ok (.goto 4, 3) := by decide +kernel
theorem dX7_upTo_57 : decode cX7_upTo 57 = .ok (.iconst 0, 1) := by decide +kernel
theorem dX7_upTo_58 : decode cX7_upTo 58 = .ok (.iadd, 1) := by decide +kernel
theorem dX7_upTo_59 : decode cX7_upTo 59 = .ok (.istore_n 3, 1) := by decide +kernel
theorem dX7_upTo_60 : decode cX7_upTo 60 = .ok (.iload 7, 2) := by decide +kernel
theorem dX7_upTo_62 : decode cX7_upTo 62 = .ok (.ifCond .ne 8, 3) := by decide +kernel
theorem dX7_upTo_65 : decode cX7_upTo 65 = .ok (.iload 6, 2) := by decide +kernel
theorem dX7_upTo_67 : decode cX7_upTo 67 = .ok (.goto 5, 3) := by decide +kernel
theorem dX7_upTo_70 : decode cX7_upTo 70 = .ok (.iload 4, 2) := by decide +kernel
theorem dX7_upTo_72 : decode cX7_upTo 72 = .ok (.istore 4, 2) := by decide +kernel
theorem dX7_upTo_74 : decode cX7_upTo 74 = .ok (.iload 7, 2) := by decide +kernel
theorem dX7_upTo_76 : decode cX7_upTo 76 = .ok (.aload_n 0, 1) := by decide +kernel
theorem dX7_upTo_77 : decode cX7_upTo 77 = .ok (.iload 5, 2) := by decide +kernel
theorem dX7_upTo_79 : decode cX7_upTo 79 = .ok (.iconst 0, 1) := by decide +kernel
theorem dX7_upTo_80 : decode cX7_upTo 80 = .ok (.invokevirtual 157, 3) := by decide +kernel
theorem dX7_upTo_83 : decode cX7_upTo 83 = .ok (.if_icmp .le 8, 3) := by decide +kernel
theorem dX7_upTo_86 : decode cX7_upTo 86 = .ok (.iload 6, 2) := by decide +kernel
theorem dX7_upTo_88 : decode cX7_upTo 88 = .ok (.goto 5, 3) := by decide +kernel
theorem dX7_upTo_91 : decode cX7_upTo 91 = .ok (.iload 5, 2) := by decide +kernel
theorem dX7_upTo_93 : decode cX7_upTo 93 = .ok (.istore 5, 2) := by decide +kernel
theorem dX7_upTo_95 : decode cX7_upTo 95 = .ok (.iinc 6 1, 3) := by decide +kernel
theorem dX7_upTo_98 : decode cX7_upTo 98 = .ok (.goto (-66), 3) := by decide +kernel
theorem dX7_upTo_101 : decode cX7_upTo 101 = .ok (.iload_n 2, 1) := by decide +kernel
theorem dX7_upTo_102 : decode cX7_upTo 102 = .ok (.ifCond .ne 7, 3) := by decide +kernel
theorem dX7_upTo_105 : decode cX7_upTo 105 = .ok (.iload_n 3, 1) := by decide +kernel
theorem dX7_upTo_106 : decode cX7_upTo 106 = .ok (.goto 15, 3) := by decide +kernel
theorem dX7_upTo_109 : decode cX7_upTo 109 = .ok (.iload_n 2, 1) := by decide +kernel
theorem dX7_upTo_110 : decode cX7_upTo 110 = .ok (.iconst 1, 1) := by decide +kernel
theorem dX7_upTo_111 : decode cX7_upTo 111 = .ok (.if_icmp .ne 8, 3) := by decide +kernel
theorem dX7_upTo_114 : decode cX7_upTo 114 = .ok (.iload 4, 2) := by decide +kernel
theorem dX7_upTo_116 : decode cX7_upTo 116 = .ok (.goto 5, 3) := by decide +kernel
theorem dX7_upTo_119 : decode cX7_upTo 119 = .ok (.iload 5, 2) := by decide +kernel
theorem dX7_upTo_121 : decode cX7_upTo 121 = .ok (.ireturn, 1) := by decide +kernel
set_option maxRecDepth 20000 in
theorem ggX7_picture_X7_isIn : GoodIn wsX7_picture wsX7_isIn := goodIn_r _ [6] (by decide +kernel) (by decide +kernel)
set_option maxRecDepth 20000 in
theorem gX7_picture_X7_isIn : GoodIn wsX7_picture (va_wsS RX7 55 yX7_isIn wsX7_isIn) := goodIn_app (goodIn_of _ (by decide +kernel)) ggX7_picture_X7_isIn
set_option maxRecDepth 20000 in
theorem ggX7_picture_X7_isMarked : GoodIn wsX7_picture wsX7_isMarked := goodIn_r _ [10, 2, 11, 12, 5, 13, 14, 15, 16, 17, 3, 4, 6, 18, 19, 20, 21, 22, 23, 24, 25, 26, 27, 28, 29, 30, 31, 32, 33, 34, 35, 36, 37, 38, 39, 40, 41, 42, 43, 44, 45, 46, 47, 48, 49, 50, 51, 52, 53, 54, 55, 56, 57, 58, 59, 60, 61, 62, 63, 64, 65, 66, 67, 68, 69, 70, 71, 72] (by decide +kernel) (by decide +kernel)
set_option maxRecDepth 20000 in
theorem gX7_picture_X7_isMarked : GoodIn wsX7_picture (wsV RX7 149 RX7 yX7_isMarked wsX7_isMarked) := goodIn_app (goodIn_of _ (by decide +kernel)) ggX7_picture_X7_isMarked
theorem dX7_picture_0 : decode cX7_picture 0 = .ok (.iload_n 1, 1) := by decide +kernel
theorem dX7_picture_1 : decode cX7_picture 1 = .ok (.i2l, 1) := by decide +kernel
theorem dX7_picture_2 : decode cX7_picture 2 = .ok (.lconst 0, 1) := by decide +kernel
theorem dX7_picture_3 : decode cX7_picture 3 = .ok (.ldc2_w 172, 3) := by decide +kernel
theorem dX7_picture_6 : decode cX7_picture 6 = .ok (.invokestatic 55, 3) := by decide +kernel
theorem dX7_picture_9 : decode cX7_picture 9 = .ok (.ifCond .ne 5, 3) := by decide +kernel
theorem dX7_picture_12 : decode cX7_picture 12 = .ok (.iconst (-1), 1) := by decide +kernel
theorem dX7_picture_13 : decode cX7_picture 13 = .ok (.ireturn, 1) := by decide +kernel
theorem dX7_picture_14 : decode cX7_picture 14 = .ok (.iconst 0, 1) := by decide +kernel
theorem dX7_picture_15 : decode cX7_picture 15 = .ok (.istore_n 2, 1) := by decide +kernel
theorem dX7_picture_16 : decode cX7_picture 16 = .ok (.iconst 0, 1) := by decide +kernel
theorem dX7_picture_17 : decode cX7_picture 17 = .ok (.istore_n 3, 1) := by decide +kernel
theorem dX7_picture_18 : decode cX7_picture 18 = .ok (.iload_n 3, 1) := by decide +kernel
theorem dX7_picture_19 : decode cX7_picture 19 = .ok (.bipush 8, 2) := by decide +kernel
theorem dX7_picture_21 : decode cX7_picture 21 = .ok (.if_icmp .ge 42, 3) := by decide +kernel
theorem dX7_picture_24 : decode cX7_picture 24 = .ok (.iload_n 2, 1) := by decide +kernel
theorem dX7_picture_25 : decode cX7_picture 25 = .ok (.aload_n 0, 1) := by decide +kernel
theorem dX7_picture_26 : decode cX7_picture 26 = .ok (.aload_n 0, 1) := by decide +kernel
theorem dX7_picture_27 : decode cX7_picture 27 = .ok (.getfield 11, 3) := by decide +kernel
theorem dX7_picture_30 : decode cX7_picture 30 = .ok (.iconst 2, 1) := by decide +kernel
theorem dX7_picture_31 : decode cX7_picture 31 = .ok (.iaload, 1) := by decide +kernel
theorem dX7_picture_32 : decode cX7_picture 32 = .ok (.iload_n 1, 1) := by decide +kernel
theorem dX7_picture_33 : decode cX7_picture 33 = .ok (.iadd, 1) := by decide +kernel
theorem dX7_picture_34 : decode cX7_picture 34 = .ok (.aload_n 0, 1) := by decide +kernel
theorem dX7_picture_35 : decode cX7_picture 35 = .ok (.getfield 11, 3) := by decide +kernel
theorem dX7_picture_38 : decode cX7_picture 38 = .ok (.iconst 3, 1) := by decide +kernel
theorem dX7_picture_39 : decode cX7_picture 39 = .ok (.iaload, 1) := by decide +kernel
theorem dX7_picture_40 : decode cX7_picture 40 = .ok (.iload_n 3, 1) := by decide +kernel
theorem dX7_picture_41 : decode cX7_picture 41 = .ok (.iadd, 1) := by decide +kernel
theorem dX7_picture_42 : decode cX7_picture 42 = .ok (.invokevirtual 149, 3) := by decide +kernel
theorem dX7_picture_45 : decode cX7_picture 45 = .ok (.ifCond .eq 9, 3) := by decide +kernel
theorem dX7_picture_48 : decode cX7_picture 48 = .ok (.iconst 1, 1) := by decide +kernel
theorem dX7_picture_49 : decode cX7_picture 49 = .ok (.iload_n 3, 1) := by decide +kernel
theorem dX7_picture_50 : decode cX7_picture 50 = .ok (.ishl, 1) := by decide +kernel
theorem dX7_picture_51 : decode cX7_picture 51 = .ok (.goto 4, 3) := by decide +kernel
theorem dX7_picture_54 : decode cX7_picture 54 = .ok (.iconst 0, 1) := by decide +kernel
theorem dX7_picture_55 : decode cX7_picture 55 = .ok (.ior, 1) := by decide +kernel
theorem dX7_picture_56 : decode cX7_picture 56 = .ok (.istore_n 2, 1) := by decide +kernel
theorem dX7_picture_57 : decode cX7_picture 57 = .ok (.iinc 3 1, 3) := by decide +kernel
theorem dX7_picture_60 : decode cX7_picture 60 = .ok (.goto (-42), 3) := by decide +kernel
theorem dX7_picture_63 : decode cX7_picture 63 = .ok (.iload_n 2, 1) := by decide +kernel
theorem dX7_picture_64 : decode cX7_picture 64 = .ok (.ireturn, 1) := by decide +kernel
set_option maxRecDepth 20000 in
theorem ggX7_areLike_X7_remainder : GoodIn wsX7_areLike wsX7_remainder := goodIn_r _ [5, 6, 7, 8, 9, 10, 4, 11, 12, 13, 14, 15, 16, 17, 18, 19, 20, 21, 22, 23, 24, 25, 26, 27, 28, 29, 30, 31, 32, 33, 34, 35, 36, 37, 38] (by decide +kernel) (by decide +kernel)
set_option maxRecDepth 20000 in
theorem gX7_areLike_X7_remainder : GoodIn wsX7_areLike (wsV RX7 62 RX7 yX7_remainder wsX7_remainder) := goodIn_app (goodIn_of _ (by decide +kernel)) ggX7_areLike_X7_remainder
theorem dX7_areLike_0 : decode cX7_areLike 0 = .ok (.iconst 1, 1) := by decide +kernel
theorem dX7_areLike_1 : decode cX7_areLike 1 = .ok (.istore 6, 2) := by decide +kernel
theorem dX7_areLike_3 : decode cX7_areLike 3 = .ok (.iconst 0, 1) := by decide +kernel
theorem dX7_areLike_4 : decode cX7_areLike 4 = .ok (.istore 7, 2) := by decide +kernel
theorem dX7_areLike_6 : decode cX7_areLike 6 = .ok (.iload 7, 2) := by decide +kernel
theorem dX7_areLike_8 : decode cX7_areLike 8 = .ok (.iload 5, 2) := by decide +kernel
theorem dX7_areLike_10 : decode cX7_areLike 10 = .ok (.if_icmp .ge 63, 3) := by decide +kernel
theorem dX7_areLike_13 : decode cX7_areLike 13 = .ok (.iconst 0, 1) := by decide +kernel
theorem dX7_areLike_14 : decode cX7_areLike 14 = .ok (.istore 8, 2) := by decide +kernel
theorem dX7_areLike_16 : decode cX7_areLike 16 = .ok (.iload 8, 2) := by decide +kernel
theorem dX7_areLike_18 : decode cX7_areLike 18 = .ok (.iload 5, 2) := by decide +kernel
theorem dX7_areLike_20 : decode cX7_areLike 20 = .ok (.if_icmp .ge 47, 3) := by decide +kernel
theorem dX7_areLike_23 : decode cX7_areLike 23 = .ok (.iload 6, 2) := by decide +kernel
theorem dX7_areLike_25 : decode cX7_areLike 25 = .ok (.aload_n 0, 1) := by decide +kernel
theorem dX7_areLike_26 : decode cX7_areLike 26 = .ok (.iload_n 1, 1) := by decide +kernel
theorem dX7_areLike_27 : decode cX7_areLike 27 = .ok (.iload 7, 2) := by decide +kernel
theorem dX7_areLike_29 : decode cX7_areLike 29 = .ok (.iadd, 1) := by decide +kernel
theorem dX7_areLike_30 : decode cX7_areLike 30 = .ok (.iload_n 2, 1) := by decide +kernel
theorem dX7_areLike_31 : decode cX7_areLike 31 = .ok (.iload 8, 2) := by decide +kernel
theorem dX7_areLike_33 : decode cX7_areLike 33 = .ok (.iadd, 1) := by decide +kernel
theorem dX7_areLike_34 : decode cX7_areLike 34 = .ok (.invokevirtual 62, 3) := by decide +kernel
theorem dX7_areLike_37 : decode cX7_areLike 37 = .ok (.aload_n 0, 1) := by decide +kernel
theorem dX7_areLike_38 : decode cX7_areLike 38 = .ok (.iload_n 3, 1) := by decide +kernel
theorem dX7_areLike_39 : decode cX7_areLike 39 = .ok (.iload 7, 2) := by decide +kernel
theorem dX7_areLike_41 : decode cX7_areLike 41 = .ok (.iadd, 1) := by decide +kernel
theorem dX7_areLike_42 : decode cX7_areLike 42 = .ok (.iload 4, 2) := by decide +kernel
theorem dX7_areLike_44 : decode cX7_areLike 44 = .ok (.iload 8, 2) := by decide +kernel
theorem dX7_areLike_46 : decode cX7_areLike 46 = .ok (.iadd, 1) := by decide +kernel
theorem dX7_areLike_47 : decode cX7_areLike 47 = .ok (.invokevirtual 62, 3) := by decide +kernel
theorem dX7_areLike_50 : decode cX7_areLike 50 = .ok (.if_icmp .ne 7, 3) := by decide +kernel
theorem dX7_areLike_53 : decode cX7_areLike 53 = .ok (.iconst 1, 1) := by decide +kernel
theorem dX7_areLike_54 : decode cX7_areLike 54 = .ok (.goto 4, 3) := by decide +kernel
theorem dX7_areLike_57 : decode cX7_areLike 57 = .ok (.iconst 0, 1) := by decide +kernel
theorem dX7_areLike_58 : decode cX7_areLike 58 = .ok (.iand, 1) := by decide +kernel
theorem dX7_areLike_59 : decode cX7_areLike 59 = .ok (.istore 6, 2) := by decide +kernel
theorem dX7_areLike_61 : decode cX7_areLike 61 = .ok (.iinc 8 1, 3) := by decide +kernel
theorem dX7_areLike_64 : decode cX7_areLike 64 = .ok (.goto (-48), 3) := by decide +kernel
theorem dX7_areLike_67 : decode cX7_areLike 67 = .ok (.iinc 7 1, 3) := by decide +kernel
theorem dX7_areLike_70 : decode cX7_areLike 70 = .ok (.goto (-64), 3) := by decide +kernel
theorem dX7_areLike_73 : decode cX7_areLike 73 = .ok (.iload 6, 2) := by decide +kernel
theorem dX7_areLike_75 : decode cX7_areLike 75 = .ok (.ireturn, 1) := by decide +kernel
set_option maxRecDepth 20000 in
theorem ggX7_like_X7_isRow : GoodIn wsX7_like wsX7_isRow := goodIn_r _ [5, 6, 7, 8, 4, 9] (by decide +kernel) (by decide +kernel)
set_option maxRecDepth 20000 in
theorem gX7_like_X7_isRow : GoodIn wsX7_like (va_wsS RX7 77 yX7_isRow wsX7_isRow) := goodIn_app (goodIn_of _ (by decide +kernel)) ggX7_like_X7_isRow
set_option maxRecDepth 20000 in
theorem ggX7_like_X7_isIn : GoodIn wsX7_like wsX7_isIn := goodIn_r _ [9] (by decide +kernel) (by decide +kernel)
set_option maxRecDepth 20000 in
theorem gX7_like_X7_isIn : GoodIn wsX7_like (va_wsS RX7 55 yX7_isIn wsX7_isIn) := goodIn_app (goodIn_of _ (by decide +kernel)) ggX7_like_X7_isIn
set_option maxRecDepth 20000 in
theorem ggX7_like_X7_areLike : GoodIn wsX7_like wsX7_areLike := goodIn_r _ [13, 14, 15, 16, 4, 17, 6, 18, 19, 20, 21, 22, 23, 24, 25, 26, 27, 28, 29, 30, 31, 7, 8, 9, 32, 33, 34, 35, 36, 37, 38, 39, 40, 41, 42, 43, 44, 45, 46] (by decide +kernel) (by decide +kernel)
set_option maxRecDepth 20000 in
theorem gX7_like_X7_areLike : GoodIn wsX7_like (wsV RX7 176 RX7 yX7_areLike wsX7_areLike) := goodIn_app (goodIn_of _ (by decide +kernel)) ggX7_like_X7_areLike
theorem dX7_like_0 : decode cX7_like 0 = .ok (.iload_n 1, 1) := by decide +kernel
theorem dX7_like_1 : decode cX7_like 1 = .ok (.invokestatic 77, 3) := by decide +kernel
theorem dX7_like_4 : decode cX7_like 4 = .ok (.ifCond .eq 25, 3) := by decide +kernel
theorem dX7_like_7 : decode cX7_like 7 = .ok (.iload_n 2, 1) := by decide +kernel
theorem dX7_like_8 : decode cX7_like 8 = .ok (.invokestatic 77, 3) := by decide +kernel
theorem dX7_like_11 : decode cX7_like 11 = .ok (.ifCond .eq 18, 3) := by decide +kernel
theorem dX7_like_14 : decode cX7_like 14 = .ok (.iload_n 3, 1) := by decide +kernel
theorem dX7_like_15 : decode cX7_like 15 = .ok (.invokestatic 77, 3) := by decide +kernel
theorem dX7_like_18 : decode cX7_like 18 = .ok (.ifCond .eq 11, 3) := by decide +kernel
theorem dX7_like_21 : decode cX7_like 21 = .ok (.iload 4, 2) := by decide +kernel
theorem dX7_like_23 : decode cX7_like 23 = .ok (.invokestatic 77, 3) := by decide +kernel
theorem dX7_like_26 : decode cX7_like 26 = .ok (.ifCond .ne 5, 3) := by decide +kernel
theorem dX7_like_29 : decode cX7_like 29 = .ok (.iconst (-1), 1) := by decide +kernel
theorem dX7_like_30 : decode cX7_like 30 = .ok (.ireturn, 1) := by decide +kernel
theorem dX7_like_31 : decode cX7_like 31 = .ok (.iload 5, 2) := by decide +kernel
theorem dX7_like_33 : decode cX7_like 33 = .ok (.i2l, 1) := by decide +kernel
theorem dX7_like_34 : decode cX7_like 34 = .ok (.lconst 1, 1) := by decide +kernel
theorem dX7_like_35 : decode cX7_like 35 = .ok (.ldc2_w 174, 3) := by decide +kernel
theorem dX7_like_38 : decode cX7_like 38 = .ok (.invokestatic 55, 3) := by decide +kernel
theorem dX7_like_41 : decode cX7_like 41 = .ok (.ifCond .ne 6, 3) := by decide +kernel
theorem dX7_like_44 : decode cX7_like 44 = .ok (.bipush (-2), 2) := by decide +kernel
theorem dX7_like_46 : decode cX7_like 46 = .ok (.ireturn, 1) := by decide +kernel
theorem dX7_like_47 : decode cX7_like 47 = .ok (.aload_n 0, 1) := by decide +kernel
theorem dX7_like_48 : decode cX7_like 48 = .ok (.iload_n 1, 1) := by decide +kernel
theorem dX7_like_49 : decode cX7_like 49 = .ok (.iload_n 2, 1) := by decide +kernel
theorem dX7_like_50 : decode cX7_like 50 = .ok (.iload_n 3, 1) := by decide +kernel
theorem dX7_like_51 : decode cX7_like 51 = .ok (.iload 4, 2) := by decide +kernel
theorem dX7_like_53 : decode cX7_like 53 = .ok (.iload 5, 2) := by decide +kernel
theorem dX7_like_55 : decode cX7_like 55 = .ok (.invokevirtual 176, 3) := by decide +kernel
theorem dX7_like_58 : decode cX7_like 58 = .ok (.ifCond .eq 7, 3) := by decide +kernel
theorem dX7_like_61 : decode cX7_like 61 = .ok (.iconst 1, 1) := by decide +kernel
theorem dX7_like_62 : decode cX7_like 62 = .ok (.goto 4, 3) := by decide +kernel
theorem dX7_like_65 : decode cX7_like 65 = .ok (.iconst 0, 1) := by decide +kernel
theorem dX7_like_66 : decode cX7_like 66 = .ok (.ireturn, 1) := by decide +kernel
set_option maxRecDepth 20000 in
theorem ggX7_scaled_X7_isIn : GoodIn wsX7_scaled wsX7_isIn := goodIn_r _ [6] (by decide +kernel) (by decide +kernel)
set_option maxRecDepth 20000 in
theorem gX7_scaled_X7_isIn : GoodIn wsX7_scaled (va_wsS RX7 55 yX7_isIn wsX7_isIn) := goodIn_app (goodIn_of _ (by decide +kernel)) ggX7_scaled_X7_isIn
set_option maxRecDepth 20000 in
theorem ggX7_scaled_X7_areLike : GoodIn wsX7_scaled wsX7_areLike := goodIn_r _ [10, 11, 12, 13, 5, 14, 15, 16, 17, 18, 19, 20, 21, 22, 23, 24, 25, 26, 27, 28, 29, 3, 4, 6, 30, 31, 32, 33, 34, 35, 36, 37, 38, 39, 40, 41, 42, 43, 44] (by decide +kernel) (by decide +kernel)
set_option maxRecDepth 20000 in
theorem gX7_scaled_X7_areLike : GoodIn wsX7_scaled (wsV RX7 176 RX7 yX7_areLike wsX7_areLike) := goodIn_app (goodIn_of _ (by decide +kernel)) ggX7_scaled_X7_areLike
theorem dX7_scaled_0 : decode cX7_scaled 0 = .ok (.iload_n 1, 1) := by decide +kernel
theorem dX7_scaled_1 : decode cX7_scaled 1 = .ok (.i2l, 1) := by decide +kernel
theorem dX7_scaled_2 : decode cX7_scaled 2 = .ok (.lconst 1, 1) := by decide +kernel
theorem dX7_scaled_3 : decode cX7_scaled 3 = .ok (.ldc2_w 174, 3) := by decide +kernel
theorem dX7_scaled_6 : decode cX7_scaled 6 = .ok (.invokestatic 55, 3) := by decide +kernel
theorem dX7_scaled_9 : decode cX7_scaled 9 = .ok (.ifCond .eq 15, 3) := by decide +kernel
theorem dX7_scaled_12 : decode cX7_scaled 12 = .ok (.iload_n 2, 1) := by decide +kernel
theorem dX7_scaled_13 : decode cX7_scaled 13 = .ok (.i2l, 1) := by decide +kernel
theorem dX7_scaled_14 : decode cX7_scaled 14 = .ok (.lconst 1, 1) := by decide +kernel
theorem dX7_scaled_15 : decode cX7_scaled 15 = .ok (.ldc2_w 180, 3) := by decide +kernel
theorem dX7_scaled_18 : decode cX7_scaled 18 = .ok (.invokestatic 55, 3) := by decide +kernel
theorem dX7_scaled_21 : decode cX7_scaled 21 = .ok (.ifCond .ne 6, 3) := by decide +kernel
theorem dX7_scaled_24 : decode cX7_scaled 24 = .ok (.bipush (-2), 2) := by decide +kernel
theorem dX7_scaled_26 : decode cX7_scaled 26 = .ok (.ireturn, 1) := by decide +kernel
theorem dX7_scaled_27 : decode cX7_scaled 27 = .ok (.aload_n 0, 1) := by decide +kernel
theorem dX7_scaled_28 : decode cX7_scaled 28 = .ok (.iconst 0, 1) := by decide +kernel
theorem dX7_scaled_29 : decode cX7_scaled 29 = .ok (.iconst 0, 1) := by decide +kernel
theorem dX7_scaled_30 : decode cX7_scaled 30 = .ok (.iload_n 2, 1) := by decide +kernel
theorem dX7_scaled_31 : decode cX7_scaled 31 = .ok (.iload_n 1, 1) := by decide +kernel
theorem dX7_scaled_32 : decode cX7_scaled 32 = .ok (.imul, 1) := by decide +kernel
theorem dX7_scaled_33 : decode cX7_scaled 33 = .ok (.iconst 0, 1) := by decide +kernel
theorem dX7_scaled_34 : decode cX7_scaled 34 = .ok (.iload_n 1, 1) := by decide +kernel
theorem dX7_scaled_35 : decode cX7_scaled 35 = .ok (.invokevirtual 176, 3) := by decide +kernel
theorem dX7_scaled_38 : decode cX7_scaled 38 = .ok (.ifCond .eq 7, 3) := by decide +kernel
theorem dX7_scaled_41 : decode cX7_scaled 41 = .ok (.iconst 1, 1) := by decide +kernel
theorem dX7_scaled_42 : decode cX7_scaled 42 = .ok (.goto 4, 3) := by decide +kernel
theorem dX7_scaled_45 : decode cX7_scaled 45 = .ok (.iconst 0, 1) := by decide +kernel
theorem dX7_scaled_46 : decode cX7_scaled 46 = .ok (.ireturn, 1) := by decide +kernel
set_option maxRecDepth 20000 in
theorem ggX7_see_X7_isPlace : GoodIn wsX7_see wsX7_isPlace := goodIn_r _ [6, 7, 8, 5, 9, 10, 11, 12, 13] (by decide +kernel) (by decide +kernel)
set_option maxRecDepth 20000 in
theorem gX7_see_X7_isPlace : GoodIn wsX7_see (va_wsS RX7 83 yX7_isPlace wsX7_isPlace) := goodIn_app (goodIn_of _ (by decide +kernel)) ggX7_see_X7_isPlace
set_option maxRecDepth 20000 in
theorem ggX7_see_X7_isIn : GoodIn wsX7_see wsX7_isIn := goodIn_r _ [13] (by decide +kernel) (by decide +kernel)
set_option maxRecDepth 20000 in
theorem gX7_see_X7_isIn : GoodIn wsX7_see (va_wsS RX7 55 yX7_isIn wsX7_isIn) := goodIn_app (goodIn_of _ (by decide +kernel)) ggX7_see_X7_isIn
theorem dX7_see_0 : decode cX7_see 0 = .ok (.iload_n 1, 1) := by decide +kernel
theorem dX7_see_1 : decode cX7_see 1 = .ok (.iconst (-1), 1) := by decide +kernel
theorem dX7_see_2 : decode cX7_see 2 = .ok (.if_icmp .ne 13, 3) := by decide +kernel
theorem dX7_see_5 : decode cX7_see 5 = .ok (.aload_n 0, 1) := by decide +kernel
theorem dX7_see_6 : decode cX7_see 6 = .ok (.getfield 11, 3) := by decide +kernel
theorem dX7_see_9 : decode cX7_see 9 = .ok (.bipush 17, 2) := by decide +kernel
theorem dX7_see_11 : decode cX7_see 11 = .ok (.iconst 0, 1) := by decide +kernel
theorem dX7_see_12 : decode cX7_see 12 = .ok (.iastore, 1) := by decide +kernel
theorem dX7_see_13 : decode cX7_see 13 = .ok (.iconst 0, 1) := by decide +kernel
theorem dX7_see_14 : decode cX7_see 14 = .ok (.ireturn, 1) := by decide +kernel
theorem dX7_see_15 : decode cX7_see 15 = .ok (.iload_n 1, 1) := by decide +kernel
theorem dX7_see_16 : decode cX7_see 16 = .ok (.iload_n 2, 1) := by decide +kernel
theorem dX7_see_17 : decode cX7_see 17 = .ok (.invokestatic 83, 3) := by decide +kernel
theorem dX7_see_20 : decode cX7_see 20 = .ok (.ifCond .ne 5, 3) := by decide +kernel
theorem dX7_see_23 : decode cX7_see 23 = .ok (.iconst (-1), 1) := by decide +kernel
theorem dX7_see_24 : decode cX7_see 24 = .ok (.ireturn, 1) := by decide +kernel
theorem dX7_see_25 : decode cX7_see 25 = .ok (.iload_n 3, 1) := by decide +kernel
theorem dX7_see_26 : decode cX7_see 26 = .ok (.i2l, 1) := by decide +kernel
theorem dX7_see_27 : decode cX7_see 27 = .ok (.lconst 0, 1) := by decide +kernel
theorem dX7_see_28 : decode cX7_see 28 = .ok (.ldc2_w 97, 3) := by decide +kernel
theorem dX7_see_31 : decode cX7_see 31 = .ok (.invokestatic 55, 3) := by decide +kernel
theorem dX7_see_34 : decode cX7_see 34 = .ok (.ifCond .ne 6, 3) := by decide +kernel
theorem dX7_see_37 : decode cX7_see 37 = .ok (.bipush (-2), 2) := by decide +kernel
theorem dX7_see_39 : decode cX7_see 39 = .ok (.ireturn, 1) := by decide +kernel
theorem dX7_see_40 : decode cX7_see 40 = .ok (.aload_n 0, 1) := by decide +kernel
theorem dX7_see_41 : decode cX7_see 41 = .ok (.getfield 11, 3) := by decide +kernel
theorem dX7_see_44 : decode cX7_see 44 = .ok (.bipush 17, 2) := by decide +kernel
theorem dX7_see_46 : decode cX7_see 46 = .ok (.iaload, 1) := by decide +kernel
theorem dX7_see_47 : decode cX7_see 47 = .ok (.iconst 4, 1) := by decide +kernel
theorem dX7_see_48 : decode cX7_see 48 = .ok (.if_icmp .ne 6, 3) := by decide +kernel
theorem dX7_see_51 : decode cX7_see 51 = .ok (.bipush (-4), 2) := by decide +kernel
theorem dX7_see_53 : decode cX7_see 53 = .ok (.ireturn, 1) := by decide +kernel
theorem dX7_see_54 : decode cX7_see 54 = .ok (.bipush 18, 2) := by decide +kernel
theorem dX7_see_56 : decode cX7_see 56 = .ok (.iconst 3, 1) := by decide +kernel
theorem dX7_see_57 : decode cX7_see 57 = .ok (.aload_n 0, 1) := by decide +kernel
theorem dX7_see_58 : decode cX7_see 58 = .ok (.getfield 11, 3) := by decide +kernel
theorem dX7_see_61 : decode cX7_see 61 = .ok (.bipush 17, 2) := by decide +kernel
theorem dX7_see_63 : decode cX7_see 63 = .ok (.iaload, 1) := by decide +kernel
theorem dX7_see_64 : decode cX7_see 64 = .ok (.imul, 1) := by decide +kernel
theorem dX7_see_65 : decode cX7_see 65 = .ok (.iadd, 1) := by decide +kernel
theorem dX7_see_66 : decode cX7_see 66 = .ok (.istore 4, 2) := by decide +kernel
theorem dX7_see_68 : decode cX7_see 68 = .ok (.aload_n 0, 1) := by decide +kernel
theorem dX7_see_69 : decode cX7_see 69 = .ok (.getfield 11, 3) := by decide +kernel
theorem dX7_see_72 : decode cX7_see 72 = .ok (.iload 4, 2) := by decide +kernel
theorem dX7_see_74 : decode cX7_see 74 = .ok (.iload_n 1, 1) := by decide +kernel
theorem dX7_see_75 : decode cX7_see 75 = .ok (.iastore, 1) := by decide +kernel
theorem dX7_see_76 : decode cX7_see 76 = .ok (.aload_n 0, 1) := by decide +kernel
theorem dX7_see_77 : decode cX7_see 77 = .ok (.getfield 11, 3) := by decide +kernel
theorem dX7_see_80 : decode cX7_see 80 = .ok (.iload 4, 2) := by decide +kernel
theorem dX7_see_82 : decode cX7_see 82 = .ok (.iconst 1, 1) := by decide +kernel
theorem dX7_see_83 : decode cX7_see 83 = .ok (.iadd, 1) := by decide +kernel
theorem dX7_see_84 : decode cX7_see 84 = .ok (.iload_n 2, 1) := by decide +kernel
theorem dX7_see_85 : decode cX7_see 85 = .ok (.iastore, 1) := by decide +kernel
theorem dX7_see_86 : decode cX7_see 86 = .ok (.aload_n 0, 1) := by decide +kernel
theorem dX7_see_87 : decode cX7_see 87 = .ok (.getfield 11, 3) := by decide +kernel
theorem dX7_see_90 : decode cX7_see 90 = .ok (.iload 4, 2) := by decide +kernel
theorem dX7_see_92 : decode cX7_see 92 = .ok (.iconst 2, 1) := by decide +kernel
theorem dX7_see_93 : decode cX7_see 93 = .ok (.iadd, 1) := by decide +kernel
theorem dX7_see_94 : decode cX7_see 94 = .ok (.iload_n 3, 1) := by decide +kernel
theorem dX7_see_95 : decode cX7_see 95 = .ok (.iastore, 1) := by decide +kernel
theorem dX7_see_96 : decode cX7_see 96 = .ok (.aload_n 0, 1) := by decide +kernel
theorem dX7_see_97 : decode cX7_see 97 = .ok (.getfield 11, 3) := by decide +kernel
theorem dX7_see_100 : decode cX7_see 100 = .ok (.bipush 17, 2) := by decide +kernel
theorem dX7_see_102 : decode cX7_see 102 = .ok (.dup2, 1) := by decide +kernel
theorem dX7_see_103 : decode cX7_see 103 = .ok (.iaload, 1) := by decide +kernel
theorem dX7_see_104 : decode cX7_see 104 = .ok (.iconst 1, 1) := by decide +kernel
theorem dX7_see_105 : decode cX7_see 105 = .ok (.iadd, 1) := by decide +kernel
theorem dX7_see_106 : decode cX7_see 106 = .ok (.iastore, 1) := by decide +kernel
theorem dX7_see_107 : decode cX7_see 107 = .ok (.aload_n 0, 1) := by decide +kernel
theorem dX7_see_108 : decode cX7_see 108 = .ok (.getfield 11, 3) := by decide +kernel
theorem dX7_see_111 : decode cX7_see 111 = .ok (.bipush 17, 2) := by decide +kernel
theorem dX7_see_113 : decode cX7_see 113 = .ok (.iaload, 1) := by decide +kernel
theorem dX7_see_114 : decode cX7_see 114 = .ok (.ireturn, 1) := by decide +kernel
set_option maxRecDepth 20000 in
theorem ggX7_fits_X7_power : GoodIn wsX7_fits wsX7_power := goodIn_r _ [6] (by decide +kernel) (by decide +kernel)
set_option maxRecDepth 20000 in
theorem gX7_fits_X7_power : GoodIn wsX7_fits (va_wsS RX7 37 yX7_power wsX7_power) := goodIn_app (goodIn_of _ (by decide +kernel)) ggX7_fits_X7_power
set_option maxRecDepth 20000 in
theorem ggX7_fits_X7_takes : GoodIn wsX7_fits wsX7_takes := goodIn_r _ [10, 11, 2, 12, 13, 14, 15, 16, 17, 18, 19, 20, 21, 22, 23, 24, 25, 26] (by decide +kernel) (by decide +kernel)
set_option maxRecDepth 20000 in
theorem gX7_fits_X7_takes : GoodIn wsX7_fits (wsV RX7 49 RX7 yX7_takes wsX7_takes) := goodIn_app (goodIn_of _ (by decide +kernel)) ggX7_fits_X7_takes
theorem dX7_fits_0 : decode cX7_fits 0 = .ok (.iconst 0, 1) := by decide +kernel
theorem dX7_fits_1 : decode cX7_fits 1 = .ok (.istore_n 1, 1) := by decide +kernel
theorem dX7_fits_2 : decode cX7_fits 2 = .ok (.iconst 0, 1) := by decide +kernel
theorem dX7_fits_3 : decode cX7_fits 3 = .ok (.istore_n 2, 1) := by decide +kernel
theorem dX7_fits_4 : decode cX7_fits 4 = .ok (.iload_n 2, 1) := by decide +kernel
theorem dX7_fits_5 : decode cX7_fits 5 = .ok (.iconst 4, 1) := by decide +kernel
theorem dX7_fits_6 : decode cX7_fits 6 = .ok (.if_icmp .ge 127, 3) := by decide +kernel
theorem dX7_fits_9 : decode cX7_fits 9 = .ok (.aload_n 0, 1) := by decide +kernel
theorem dX7_fits_10 : decode cX7_fits 10 = .ok (.iload_n 2, 1) := by decide +kernel
theorem dX7_fits_11 : decode cX7_fits 11 = .ok (.ifCond .ne 7, 3) := by decide +kernel
theorem dX7_fits_14 : decode cX7_fits 14 = .ok (.iconst 2, 1) := by decide +kernel
theorem dX7_fits_15 : decode cX7_fits 15 = .ok (.goto 8, 3) := by decide +kernel
theorem dX7_fits_18 : decode cX7_fits 18 = .ok (.iconst 2, 1) := by decide +kernel
theorem dX7_fits_19 : decode cX7_fits 19 = .ok (.iload_n 2, 1) := by decide +kernel
theorem dX7_fits_20 : decode cX7_fits 20 = .ok (.imul, 1) := by decide +kernel
theorem dX7_fits_21 : decode cX7_fits 21 = .ok (.iconst 1, 1) := by decide +kernel
theorem dX7_fits_22 : decode cX7_fits 22 = .ok (.iadd, 1) := by decide +kernel
theorem dX7_fits_23 : decode cX7_fits 23 = .ok (.aload_n 0, 1) := by decide +kernel
theorem dX7_fits_24 : decode cX7_fits 24 = .ok (.getfield 11, 3) := by decide +kernel
theorem dX7_fits_27 : decode cX7_fits 27 = .ok (.iconst 1, 1) := by decide +kernel
theorem dX7_fits_28 : decode cX7_fits 28 = .ok (.iaload, 1) := by decide +kernel
theorem dX7_fits_29 : decode cX7_fits 29 = .ok (.invokestatic 37, 3) := by decide +kernel
theorem dX7_fits_32 : decode cX7_fits 32 = .ok (.invokevirtual 49, 3) := by decide +kernel
theorem dX7_fits_35 : decode cX7_fits 35 = .ok (.iconst 1, 1) := by decide +kernel
theorem dX7_fits_36 : decode cX7_fits 36 = .ok (.istore_n 3, 1) := by decide +kernel
theorem dX7_fits_37 : decode cX7_fits 37 = .ok (.iconst 0, 1) := by decide +kernel
theorem dX7_fits_38 : decode cX7_fits 38 = .ok (.istore 4, 2) := by decide +kernel
theorem dX7_fits_40 : decode cX7_fits 40 = .ok (.iload 4, 2) := by decide +kernel
theorem dX7_fits_42 : decode cX7_fits 42 = .ok (.aload_n 0, 1) := by decide +kernel
theorem dX7_fits_43 : decode cX7_fits 43 = .ok (.getfield 11, 3) := by decide +kernel
theorem dX7_fits_46 : decode cX7_fits 46 = .ok (.bipush 17, 2) := by decide +kernel
theorem dX7_fits_48 : decode cX7_fits 48 = .ok (.iaload, 1) := by decide +kernel
theorem dX7_fits_49 : decode cX7_fits 49 = .ok (.if_icmp .ge 64, 3) := by decide +kernel
theorem dX7_fits_52 : decode cX7_fits 52 = .ok (.bipush 18, 2) := by decide +kernel
theorem dX7_fits_54 : decode cX7_fits 54 = .ok (.iconst 3, 1) := by decide +kernel
theorem dX7_fits_55 : decode cX7_fits 55 = .ok (.iload 4, 2) := by decide +kernel
theorem dX7_fits_57 : decode cX7_fits 57 = .ok (.imul, 1) := by decide +kernel
theorem dX7_fits_58 : decode cX7_fits 58 = .ok (.iadd, 1) := by decide +kernel
theorem dX7_fits_59 : decode cX7_fits 59 = .ok (.istore 5, 2) := by decide +kernel
theorem dX7_fits_61 : decode cX7_fits 61 = .ok (.iload_n 3, 1) := by decide +kernel
theorem dX7_fits_62 : decode cX7_fits 62 = .ok (.aload_n 0, 1) := by decide +kernel
theorem dX7_fits_63 : decode cX7_fits 63 = .ok (.getfield 21, 3) := by decide +kernel
theorem dX7_fits_66 : decode cX7_fits 66 = .ok (.sipush 128, 3) := by decide +kernel
theorem dX7_fits_69 : decode cX7_fits 69 = .ok (.aload_n 0, 1) := by decide +kernel
theorem dX7_fits_70 : decode cX7_fits 70 = .ok (.getfield 11, 3) := by decide +kernel
theorem dX7_fits_73 : decode cX7_fits 73 = .ok (.iload 5, 2) := by decide +kernel
theorem dX7_fits_75 : decode cX7_fits 75 = .ok (.iaload, 1) := by decide +kernel
theorem dX7_fits_76 : decode cX7_fits 76 = .ok (.imul, 1) := by decide +kernel
theorem dX7_fits_77 : decode cX7_fits 77 = .ok (.aload_n 0, 1) := by decide +kernel
theorem dX7_fits_78 : decode cX7_fits 78 = .ok (.getfield 11, 3) := by decide +kernel
theorem dX7_fits_81 : decode cX7_fits 81 = .ok (.iload 5, 2) := by decide +kernel
theorem dX7_fits_83 : decode cX7_fits 83 = .ok (.iconst 1, 1) := by decide +kernel
theorem dX7_fits_84 : decode cX7_fits 84 = .ok (.iadd, 1) := by decide +kernel
theorem dX7_fits_85 : decode cX7_fits 85 = .ok (.iaload, 1) := by decide +kernel
theorem dX7_fits_86 : decode cX7_fits 86 = .ok (.iadd, 1) := by decide +kernel
theorem dX7_fits_87 : decode cX7_fits 87 = .ok (.iaload, 1) := by decide +kernel
theorem dX7_fits_88 : decode cX7_fits 88 = .ok (.aload_n 0, 1) := by decide +kernel
theorem dX7_fits_89 : decode cX7_fits 89 = .ok (.getfield 11, 3) := by decide +kernel
theorem dX7_fits_92 : decode cX7_fits 92 = .ok (.iload 5, 2) := by decide +kernel
theorem dX7_fits_94 : decode cX7_fits 94 = .ok (.iconst 2, 1) := by decide +kernel
theorem dX7_fits_95 : decode cX7_fits 95 = .ok (.iadd, 1) := by decide +kernel
theorem dX7_fits_96 : decode cX7_fits 96 = .ok (.iaload, 1) := by decide +kernel
theorem dX7_fits_97 : decode cX7_fits 97 = .ok (.if_icmp .ne 7, 3) := by decide +kernel
theorem dX7_fits_100 : decode cX7_fits 100 = .ok (.iconst 1, 1) := by decide +kernel
theorem dX7_fits_101 : decode cX7_fits 101 = .ok (.goto 4, 3) := by decide +kernel
theorem dX7_fits_104 : decode cX7_fits 104 = .ok (.iconst 0, 1) := by decide +kernel
theorem dX7_fits_105 : decode cX7_fits 105 = .ok (.iand, 1) := by decide +kernel
theorem dX7_fits_106 : decode cX7_fits 106 = .ok (.istore_n 3, 1) := by decide +kernel
theorem dX7_fits_107 : decode cX7_fits 107 = .ok (.iinc 4 1, 3) := by decide +kernel
theorem dX7_fits_110 : decode cX7_fits 110 = .ok (.goto (-70), 3) := by decide +kernel
theorem dX7_fits_113 : decode cX7_fits 113 = .ok (.iload_n 1, 1) := by decide +kernel
theorem dX7_fits_114 : decode cX7_fits 114 = .ok (.iload_n 3, 1) := by decide +kernel
theorem dX7_fits_115 : decode cX7_fits 115 = .ok (.ifCond .eq 9, 3) := by decide +kernel
theorem dX7_fits_118 : decode cX7_fits 118 = .ok (.iconst 1, 1) := by decide +kernel
theorem dX7_fits_119 : decode cX7_fits 119 = .ok (.iload_n 2, 1) := by decide +kernel
theorem dX7_fits_120 : decode cX7_fits 120 = .ok (.ishl, 1) := by decide +kernel
theorem dX7_fits_121 : decode cX7_fits 121 = .ok (.goto 4, 3) := by decide +kernel
theorem dX7_fits_124 : decode cX7_fits 124 = .ok (.iconst 0, 1) := by decide +kernel
theorem dX7_fits_125 : decode cX7_fits 125 = .ok (.ior, 1) := by decide +kernel
theorem dX7_fits_126 : decode cX7_fits 126 = .ok (.istore_n 1, 1) := by decide +kernel
theorem dX7_fits_127 : decode cX7_fits 127 = .ok (.iinc 2 1, 3) := by decide +kernel
theorem dX7_fits_130 : decode cX7_fits 130 = .ok (.goto (-126), 3) := by decide +kernel
theorem dX7_fits_133 : decode cX7_fits 133 = .ok (.iload_n 1, 1) := by decide +kernel
theorem dX7_fits_134 : decode cX7_fits 134 = .ok (.ireturn, 1) := by decide +kernel
set_option maxRecDepth 20000 in
theorem ggX7_common_X7_common : GoodIn wsX7_common wsX7_common := goodIn_r _ [0, 1, 2, 3] (by decide +kernel) (by decide +kernel)
set_option maxRecDepth 20000 in
theorem gX7_common_X7_common : GoodIn wsX7_common (va_wsS RX7 182 yX7_common wsX7_common) := goodIn_app (goodIn_of _ (by decide +kernel)) ggX7_common_X7_common
theorem dX7_common_0 : decode cX7_common 0 = .ok (.iload_n 1, 1) := by decide +kernel
theorem dX7_common_1 : decode cX7_common 1 = .ok (.ifCond .ne 7, 3) := by decide +kernel
theorem dX7_common_4 : decode cX7_common 4 = .ok (.iload_n 0, 1) := by decide +kernel
theorem dX7_common_5 : decode cX7_common 5 = .ok (.goto 10, 3) := by decide +kernel
theorem dX7_common_8 : decode cX7_common 8 = .ok (.iload_n 1, 1) := by decide +kernel
theorem dX7_common_9 : decode cX7_common 9 = .ok (.iload_n 0, 1) := by decide +kernel
theorem dX7_common_10 : decode cX7_common 10 = .ok (.iload_n 1, 1) := by decide +kernel
theorem dX7_common_11 : decode cX7_common 11 = .ok (.irem, 1) := by decide +kernel
theorem dX7_common_12 : decode cX7_common 12 = .ok (.invokestatic 182, 3) := by decide +kernel
theorem dX7_common_15 : decode cX7_common 15 = .ok (.ireturn, 1) := by decide +kernel
set_option maxRecDepth 20000 in
theorem ggX7_fraction_X7_common : GoodIn wsX7_fraction wsX7_common := goodIn_r _ [4, 1, 2, 3] (by decide +kernel) (by decide +kernel)
set_option maxRecDepth 20000 in
theorem gX7_fraction_X7_common : GoodIn wsX7_fraction (va_wsS RX7 182 yX7_common wsX7_common) := goodIn_app (goodIn_of _ (by decide +kernel)) ggX7_fraction_X7_common
theorem dX7_fraction_0 : decode cX7_fraction 0 = .ok (.iload_n 2, 1) := by decide +kernel
theorem dX7_fraction_1 : decode cX7_fraction 1 = .ok (.ifCond .ne 7, 3) := by decide +kernel
theorem dX7_fraction_4 : decode cX7_fraction 4 = .ok (.iload_n 0, 1) := by decide +kernel
theorem dX7_fraction_5 : decode cX7_fraction 5 = .ok (.goto 4, 3) := by decide +kernel
theorem dX7_fraction_8 : decode cX7_fraction 8 = .ok (.iload_n 1, 1) := by decide +kernel
theorem dX7_fraction_9 : decode cX7_fraction 9 = .ok (.iload_n 1, 1) := by decide +kernel
theorem dX7_fraction_10 : decode cX7_fraction 10 = .ok (.iload_n 0, 1) := by decide +kernel
theorem dX7_fraction_11 : decode cX7_fraction 11 = .ok (.invokestatic 182, 3) := by decide +kernel
theorem dX7_fraction_14 : decode cX7_fraction 14 = .ok (.idiv, 1) := by decide +kernel
theorem dX7_fraction_15 : decode cX7_fraction 15 = .ok (.i2l, 1) := by decide +kernel
theorem dX7_fraction_16 : decode cX7_fraction 16 = .ok (.lreturn, 1) := by decide +kernel
set_option maxRecDepth 20000 in
theorem ggX7_odds_X7_isRow : GoodIn wsX7_odds wsX7_isRow := goodIn_r _ [5, 6, 7, 8, 4, 9] (by decide +kernel) (by decide +kernel)
set_option maxRecDepth 20000 in
theorem gX7_odds_X7_isRow : GoodIn wsX7_odds (va_wsS RX7 77 yX7_isRow wsX7_isRow) := goodIn_app (goodIn_of _ (by decide +kernel)) ggX7_odds_X7_isRow
set_option maxRecDepth 20000 in
theorem ggX7_odds_X7_isKind : GoodIn wsX7_odds wsX7_isKind := goodIn_r _ [12, 13, 7, 8, 4, 9] (by decide +kernel) (by decide +kernel)
set_option maxRecDepth 20000 in
theorem gX7_odds_X7_isKind : GoodIn wsX7_odds (va_wsS RX7 94 yX7_isKind wsX7_isKind) := goodIn_app (goodIn_of _ (by decide +kernel)) ggX7_odds_X7_isKind
set_option maxRecDepth 20000 in
theorem ggX7_odds_X7_isIn : GoodIn wsX7_odds wsX7_isIn := goodIn_r _ [9] (by decide +kernel) (by decide +kernel)
set_option maxRecDepth 20000 in
theorem gX7_odds_X7_isIn : GoodIn wsX7_odds (va_wsS RX7 55 yX7_isIn wsX7_isIn) := goodIn_app (goodIn_of _ (by decide +kernel)) ggX7_odds_X7_isIn
set_option maxRecDepth 20000 in
theorem ggX7_odds_X7_tells : GoodIn wsX7_odds wsX7_tells := goodIn_r _ [17, 18, 19, 20, 4, 21, 6, 22, 23, 24, 25, 26, 27, 28, 29, 30, 31, 32, 33, 34, 35, 7, 8, 9, 36, 37, 38, 39, 40, 41, 42, 43, 44, 45, 46, 47, 48, 49, 50, 51, 52, 53, 54, 61, 62, 63, 64, 65, 66, 67, 68, 69, 70, 71, 72, 73, 74, 75] (by decide +kernel) (by decide +kernel)
set_option maxRecDepth 20000 in
theorem gX7_odds_X7_tells : GoodIn wsX7_odds (wsV RX7 87 RX7 yX7_tells wsX7_tells) := goodIn_app (goodIn_of _ (by decide +kernel)) ggX7_odds_X7_tells
set_option maxRecDepth 20000 in
theorem ggX7_odds_X7_fraction : GoodIn wsX7_odds wsX7_fraction := goodIn_r _ [57, 58, 59, 4, 60] (by decide +kernel) (by decide +kernel)
set_option maxRecDepth 20000 in
theorem gX7_odds_X7_fraction : GoodIn wsX7_odds (va_wsS RX7 187 yX7_fraction wsX7_fraction) := goodIn_app (goodIn_of _ (by decide +kernel)) ggX7_odds_X7_fraction
theorem dX7_odds_0 : decode cX7_odds 0 = .ok (.iload_n 1, 1) := by decide +kernel
theorem dX7_odds_1 : decode cX7_odds 1 = .ok (.invokestatic 77, 3) := by decide +kernel
theorem dX7_odds_4 : decode cX7_odds 4 = .ok (.ifCond .eq 21, 3) := by decide +kernel
theorem dX7_odds_7 : decode cX7_odds 7 = .ok (.iload_n 2, 1) := by decide +kernel
theorem dX7_odds_8 : decode cX7_odds 8 = .ok (.invokestatic 94, 3) := by decide +kernel
theorem dX7_odds_11 : decode cX7_odds 11 = .ok (.ifCond .eq 14, 3) := by decide +kernel
theorem dX7_odds_14 : decode cX7_odds 14 = .ok (.iload 4, 2) := by decide +kernel
theorem dX7_odds_16 : decode cX7_odds 16 = .ok (.i2l, 1) := by decide +kernel
theorem dX7_odds_17 : decode cX7_odds 17 = .ok (.lconst 0, 1) := by decide +kernel
theorem dX7_odds_18 : decode cX7_odds 18 = .ok (.lconst 1, 1) := by decide +kernel
theorem dX7_odds_19 : decode cX7_odds 19 = .ok (.invokestatic 55, 3) := by decide +kernel
theorem dX7_odds_22 : decode cX7_odds 22 = .ok (.ifCond .ne 7, 3) := by decide +kernel
theorem dX7_odds_25 : decode cX7_odds 25 = .ok (.ldc2_w 185, 3) := by decide +kernel
theorem dX7_odds_28 : decode cX7_odds 28 = .ok (.lreturn, 1) := by decide +kernel
theorem dX7_odds_29 : decode cX7_odds 29 = .ok (.iconst 0, 1) := by decide +kernel
theorem dX7_odds_30 : decode cX7_odds 30 = .ok (.istore 5, 2) := by decide +kernel
theorem dX7_odds_32 : decode cX7_odds 32 = .ok (.iconst 0, 1) := by decide +kernel
theorem dX7_odds_33 : decode cX7_odds 33 = .ok (.istore 6, 2) := by decide +kernel
theorem dX7_odds_35 : decode cX7_odds 35 = .ok (.iload 6, 2) := by decide +kernel
theorem dX7_odds_37 : decode cX7_odds 37 = .ok (.iload_n 1, 1) := by decide +kernel
theorem dX7_odds_38 : decode cX7_odds 38 = .ok (.if_icmp .gt 31, 3) := by decide +kernel
theorem dX7_odds_41 : decode cX7_odds 41 = .ok (.iload 5, 2) := by decide +kernel
theorem dX7_odds_43 : decode cX7_odds 43 = .ok (.aload_n 0, 1) := by decide +kernel
theorem dX7_odds_44 : decode cX7_odds 44 = .ok (.iload_n 2, 1) := by decide +kernel
theorem dX7_odds_45 : decode cX7_odds 45 = .ok (.iload_n 1, 1) := by decide +kernel
theorem dX7_odds_46 : decode cX7_odds 46 = .ok (.iload 6, 2) := by decide +kernel
theorem dX7_odds_48 : decode cX7_odds 48 = .ok (.invokevirtual 87, 3) := by decide +kernel
theorem dX7_odds_51 : decode cX7_odds 51 = .ok (.iload_n 3, 1) := by decide +kernel
theorem dX7_odds_52 : decode cX7_odds 52 = .ok (.if_icmp .ne 7, 3) := by decide +kernel
theorem dX7_odds_55 : decode cX7_odds 55 = .ok (.iconst 1, 1) := by decide +kernel
theorem dX7_odds_56 : decode cX7_odds 56 = .ok (.goto 4, 3) := by decide +kernel
theorem dX7_odds_59 : decode cX7_odds 59 = .ok (.iconst 0, 1) := by decide +kernel
theorem dX7_odds_60 : decode cX7_odds 60 = .ok (.iadd, 1) := by decide +kernel
theorem dX7_odds_61 : decode cX7_odds 61 = .ok (.istore 5, 2) := by decide +kernel
theorem dX7_odds_63 : decode cX7_odds 63 = .ok (.iinc 6 1, 3) := by decide +kernel
theorem dX7_odds_66 : decode cX7_odds 66 = .ok (.goto (-31), 3) := by decide +kernel
theorem dX7_odds_69 : decode cX7_odds 69 = .ok (.iload 5, 2) := by decide +kernel
theorem dX7_odds_71 : decode cX7_odds 71 = .ok (.iload_n 1, 1) := by decide +kernel
theorem dX7_odds_72 : decode cX7_odds 72 = .ok (.iconst 1, 1) := by decide +kernel
theorem dX7_odds_73 : decode cX7_odds 73 = .ok (.iadd, 1) := by decide +kernel
theorem dX7_odds_74 : decode cX7_odds 74 = .ok (.iload 4, 2) := by decide +kernel
theorem dX7_odds_76 : decode cX7_odds 76 = .ok (.invokestatic 187, 3) := by decide +kernel
theorem dX7_odds_79 : decode cX7_odds 79 = .ok (.lreturn, 1) := by decide +kernel
set_option maxRecDepth 20000 in
theorem ggX7_mean_X7_isRow : GoodIn wsX7_mean wsX7_isRow := goodIn_r _ [5, 6, 7, 8, 4, 9] (by decide +kernel) (by decide +kernel)
set_option maxRecDepth 20000 in
theorem gX7_mean_X7_isRow : GoodIn wsX7_mean (va_wsS RX7 77 yX7_isRow wsX7_isRow) := goodIn_app (goodIn_of _ (by decide +kernel)) ggX7_mean_X7_isRow
set_option maxRecDepth 20000 in
theorem ggX7_mean_X7_isIn : GoodIn wsX7_mean wsX7_isIn := goodIn_r _ [9] (by decide +kernel) (by decide +kernel)
set_option maxRecDepth 20000 in
theorem gX7_mean_X7_isIn : GoodIn wsX7_mean (va_wsS RX7 55 yX7_isIn wsX7_isIn) := goodIn_app (goodIn_of _ (by decide +kernel)) ggX7_mean_X7_isIn
set_option maxRecDepth 20000 in
theorem ggX7_mean_X7_sumOf : GoodIn wsX7_mean wsX7_sumOf := goodIn_r _ [13, 14, 15, 16, 4, 17, 6, 18, 19, 20, 21, 22, 23, 24, 25, 26, 27, 28, 29, 30, 31, 7, 8, 9, 38, 39, 40, 41, 42, 43, 44, 45, 46, 47, 48, 49, 50, 51, 52] (by decide +kernel) (by decide +kernel)
set_option maxRecDepth 20000 in
theorem gX7_mean_X7_sumOf : GoodIn wsX7_mean (wsV RX7 162 RX7 yX7_sumOf wsX7_sumOf) := goodIn_app (goodIn_of _ (by decide +kernel)) ggX7_mean_X7_sumOf
set_option maxRecDepth 20000 in
theorem ggX7_mean_X7_fraction : GoodIn wsX7_mean wsX7_fraction := goodIn_r _ [34, 35, 36, 4, 37] (by decide +kernel) (by decide +kernel)
set_option maxRecDepth 20000 in
theorem gX7_mean_X7_fraction : GoodIn wsX7_mean (va_wsS RX7 187 yX7_fraction wsX7_fraction) := goodIn_app (goodIn_of _ (by decide +kernel)) ggX7_mean_X7_fraction
theorem dX7_mean_0 : decode cX7_mean 0 = .ok (.iload_n 1, 1) := by decide +kernel
theorem dX7_mean_1 : decode cX7_mean 1 = .ok (.invokestatic 77, 3) := by decide +kernel
theorem dX7_mean_4 : decode cX7_mean 4 = .ok (.ifCond .eq 28, 3) := by decide +kernel
theorem dX7_mean_7 : decode cX7_mean 7 = .ok (.iload_n 2, 1) := by decide +kernel
theorem dX7_mean_8 : decode cX7_mean 8 = .ok (.i2l, 1) := by decide +kernel
theorem dX7_mean_9 : decode cX7_mean 9 = .ok (.lconst 0, 1) := by decide +kernel
theorem dX7_mean_10 : decode cX7_mean 10 = .ok (.lconst 1, 1) := by decide +kernel
theorem dX7_mean_11 : decode cX7_mean 11 = .ok (.invokestatic 55, 3) := by decide +kernel
theorem dX7_mean_14 : decode cX7_mean 14 = .ok (.ifCond .eq 18, 3) := by decide +kernel
theorem dX7_mean_17 : decode cX7_mean 17 = .ok (.aload_n 0, 1) := by decide +kernel
theorem dX7_mean_18 : decode cX7_mean 18 = .ok (.iload_n 1, 1) := by decide +kernel
theorem dX7_mean_19 : decode cX7_mean 19 = .ok (.invokevirtual 162, 3) := by decide +kernel
theorem dX7_mean_22 : decode cX7_mean 22 = .ok (.iload_n 1, 1) := by decide +kernel
theorem dX7_mean_23 : decode cX7_mean 23 = .ok (.iconst 1, 1) := by decide +kernel
theorem dX7_mean_24 : decode cX7_mean 24 = .ok (.iadd, 1) := by decide +kernel
theorem dX7_mean_25 : decode cX7_mean 25 = .ok (.iload_n 2, 1) := by decide +kernel
theorem dX7_mean_26 : decode cX7_mean 26 = .ok (.invokestatic 187, 3) := by decide +kernel
theorem dX7_mean_29 : decode cX7_mean 29 = .ok (.goto 6, 3) := by decide +kernel
theorem dX7_mean_32 : decode cX7_mean 32 = .ok (.ldc2_w 185, 3) := by decide +kernel
theorem dX7_mean_35 : decode cX7_mean 35 = .ok (.lreturn, 1) := by decide +kernel
set_option maxRecDepth 20000 in
theorem ggX7_event_X7_isIn : GoodIn wsX7_event wsX7_isIn := goodIn_r _ [9] (by decide +kernel) (by decide +kernel)
set_option maxRecDepth 20000 in
theorem gX7_event_X7_isIn : GoodIn wsX7_event (va_wsS RX7 55 yX7_isIn wsX7_isIn) := goodIn_app (goodIn_of _ (by decide +kernel)) ggX7_event_X7_isIn
theorem dX7_event_0 : decode cX7_event 0 = .ok (.iload_n 1, 1) := by decide +kernel
theorem dX7_event_1 : decode cX7_event 1 = .ok (.iconst (-1), 1) := by decide +kernel
theorem dX7_event_2 : decode cX7_event 2 = .ok (.if_icmp .ne 13, 3) := by decide +kernel
theorem dX7_event_5 : decode cX7_event 5 = .ok (.aload_n 0, 1) := by decide +kernel
theorem dX7_event_6 : decode cX7_event 6 = .ok (.getfield 11, 3) := by decide +kernel
theorem dX7_event_9 : decode cX7_event 9 = .ok (.bipush 30, 2) := by decide +kernel
theorem dX7_event_11 : decode cX7_event 11 = .ok (.iconst 0, 1) := by decide +kernel
theorem dX7_event_12 : decode cX7_event 12 = .ok (.iastore, 1) := by decide +kernel
theorem dX7_event_13 : decode cX7_event 13 = .ok (.iconst 0, 1) := by decide +kernel
theorem dX7_event_14 : decode cX7_event 14 = .ok (.ireturn, 1) := by decide +kernel
theorem dX7_event_15 : decode cX7_event 15 = .ok (.iload_n 1, 1) := by decide +kernel
theorem dX7_event_16 : decode cX7_event 16 = .ok (.i2l, 1) := by decide +kernel
theorem dX7_event_17 : decode cX7_event 17 = .ok (.lconst 0, 1) := by decide +kernel
theorem dX7_event_18 : decode cX7_event 18 = .ok (.ldc2_w 160, 3) := by decide +kernel
theorem dX7_event_21 : decode cX7_event 21 = .ok (.invokestatic 55, 3) := by decide +kernel
theorem dX7_event_24 : decode cX7_event 24 = .ok (.ifCond .ne 5, 3) := by decide +kernel
theorem dX7_event_27 : decode cX7_event 27 = .ok (.iconst (-1), 1) := by decide +kernel
theorem dX7_event_28 : decode cX7_event 28 = .ok (.ireturn, 1) := by decide +kernel
theorem dX7_event_29 : decode cX7_event 29 = .ok (.iload_n 2, 1) := by decide +kernel
theorem dX7_event_30 : decode cX7_event 30 = .ok (.i2l, 1) := by decide +kernel
theorem dX7_event_31 : decode cX7_event 31 = .ok (.iload_n 1, 1) := by decide +kernel
theorem dX7_event_32 : decode cX7_event 32 = .ok (.iconst 1, 1) := by decide +kernel
theorem dX7_event_33 : decode cX7_event 33 = .ok (.if_icmp .ne 7, 3) := by decide +kernel
theorem dX7_event_36 : decode cX7_event 36 = .ok (.lconst 1, 1) := by decide +kernel
theorem dX7_event_37 : decode cX7_event 37 = .ok (.goto 4, 3) := by decide +kernel
theorem dX7_event_40 : decode cX7_event 40 = .ok (.lconst 0, 1) := by decide +kernel
theorem dX7_event_41 : decode cX7_event 41 = .ok (.iload_n 1, 1) := by decide +kernel
theorem dX7_event_42 : decode cX7_event 42 = .ok (.ifCond .ne 7, 3) := by decide +kernel
theorem dX7_event_45 : decode cX7_event 45 = .ok (.lconst 0, 1) := by decide +kernel
theorem dX7_event_46 : decode cX7_event 46 = .ok (.goto 28, 3) := by decide +kernel
theorem dX7_event_49 : decode cX7_event 49 = .ok (.iload_n 1, 1) := by decide +kernel
theorem dX7_event_50 : decode cX7_event 50 = .ok (.iconst 1, 1) := by decide +kernel
theorem dX7_event_51 : decode cX7_event 51 = .ok (.if_icmp .ne 9, 3) := by decide +kernel
theorem dX7_event_54 : decode cX7_event 54 = .ok (.ldc2_w 81, 3) := by decide +kernel
theorem dX7_event_57 : decode cX7_event 57 = .ok (.goto 17, 3) := by decide +kernel
theorem dX7_event_60 : decode cX7_event 60 = .ok (.iload_n 1, 1) := by decide +kernel
theorem dX7_event_61 : decode cX7_event 61 = .ok (.iconst 2, 1) := by decide +kernel
theorem dX7_event_62 : decode cX7_event 62 = .ok (.if_icmp .ne 9, 3) := by decide +kernel
theorem dX7_event_65 : decode cX7_event 65 = .ok (.ldc2_w 191, 3) := by decide +kernel
theorem dX7_event_68 : decode cX7_event 68 = .ok (.goto 6, 3) := by decide +kernel
theorem dX7_event_71 : decode cX7_event 71 = .ok (.ldc2_w 193, 3) := by decide +kernel
theorem dX7_event_74 : decode cX7_event 74 = .ok (.invokestatic 55, 3) := by decide +kernel
theorem dX7_event_77 : decode cX7_event 77 = .ok (.ifCond .ne 6, 3) := by decide +kernel
theorem dX7_event_80 : decode cX7_event 80 = .ok (.bipush (-2), 2) := by decide +kernel
theorem dX7_event_82 : decode cX7_event 82 = .ok (.ireturn, 1) := by decide +kernel
theorem dX7_event_83 : decode cX7_event 83 = .ok (.aload_n 0, 1) := by decide +kernel
theorem dX7_event_84 : decode cX7_event 84 = .ok (.getfield 11, 3) := by decide +kernel
theorem dX7_event_87 : decode cX7_event 87 = .ok (.bipush 30, 2) := by decide +kernel
theorem dX7_event_89 : decode cX7_event 89 = .ok (.iaload, 1) := by decide +kernel
theorem dX7_event_90 : decode cX7_event 90 = .ok (.bipush 8, 2) := by decide +kernel
theorem dX7_event_92 : decode cX7_event 92 = .ok (.if_icmp .ne 6, 3) := by decide +kernel
theorem dX7_event_95 : decode cX7_event 95 = .ok (.bipush (-4), 2) := by decide +kernel
theorem dX7_event_97 : decode cX7_event 97 = .ok (.ireturn, 1) := by decide +kernel
theorem dX7_event_98 : decode cX7_event 98 = .ok (.aload_n 0, 1) := by decide +kernel
theorem dX7_event_99 : decode cX7_event 99 = .ok (.getfield 11, 3) := by decide +kernel
theorem dX7_event_102 : decode cX7_event 102 = .ok (.bipush 31, 2) := by decide +kernel
theorem dX7_event_104 : decode cX7_event 104 = .ok (.iconst 2, 1) := by decide +kernel
theorem dX7_event_105 : decode cX7_event 105 = .ok (.aload_n 0, 1) := by decide +kernel
theorem dX7_event_106 : decode cX7_event 106 = .ok (.getfield 11, 3) := by decide +kernel
theorem dX7_event_109 : decode cX7_event 109 = .ok (.bipush 30, 2) := by decide +kernel
theorem dX7_event_111 : decode cX7_event 111 = .ok (.iaload, 1) := by decide +kernel
theorem dX7_event_112 : decode cX7_event 112 = .ok (.imul, 1) := by decide +kernel
theorem dX7_event_113 : decode cX7_event 113 = .ok (.iadd, 1) := by decide +kernel
theorem dX7_event_114 : decode cX7_event 114 = .ok (.iload_n 1, 1) := by decide +kernel
theorem dX7_event_115 : decode cX7_event 115 = .ok (.iastore, 1) := by decide +kernel
theorem dX7_event_116 : decode cX7_event 116 = .ok (.aload_n 0, 1) := by decide +kernel
theorem dX7_event_117 : decode cX7_event 117 = .ok (.getfield 11, 3) := by decide +kernel
theorem dX7_event_120 : decode cX7_event 120 = .ok (.bipush 32, 2) := by decide +kernel
theorem dX7_event_122 : decode cX7_event 122 = .ok (.iconst 2, 1) := by decide +kernel
theorem dX7_event_123 : decode cX7_event 123 = .ok (.aload_n 0, 1) := by decide +kernel
theorem dX7_event_124 : decode cX7_event 124 = .ok (.getfield 11, 3) := by decide +kernel
theorem dX7_event_127 : decode cX7_event 127 = .ok (.bipush 30, 2) := by decide +kernel
theorem dX7_event_129 : decode cX7_event 129 = .ok (.iaload, 1) := by decide +kernel
theorem dX7_event_130 : decode cX7_event 130 = .ok (.imul, 1) := by decide +kernel
theorem dX7_event_131 : decode cX7_event 131 = .ok (.iadd, 1) := by decide +kernel
theorem dX7_event_132 : decode cX7_event 132 = .ok (.iload_n 2, 1) := by decide +kernel
theorem dX7_event_133 : decode cX7_event 133 = .ok (.iastore, 1) := by decide +kernel
theorem dX7_event_134 : decode cX7_event 134 = .ok (.aload_n 0, 1) := by decide +kernel
theorem dX7_event_135 : decode cX7_event 135 = .ok (.getfield 11, 3) := by decide +kernel
theorem dX7_event_138 : decode cX7_event 138 = .ok (.bipush 30, 2) := by decide +kernel
theorem dX7_event_140 : decode cX7_event 140 = .ok (.dup2, 1) := by decide +kernel
theorem dX7_event_141 : decode cX7_event 141 = .ok (.iaload, 1) := by decide +kernel
theorem dX7_event_142 : decode cX7_event 142 = .ok (.iconst 1, 1) := by decide +kernel
theorem dX7_event_143 : decode cX7_event 143 = .ok (.iadd, 1) := by decide +kernel
theorem dX7_event_144 : decode cX7_event 144 = .ok (.iastore, 1) := by decide +kernel
theorem dX7_event_145 : decode cX7_event 145 = .ok (.aload_n 0, 1) := by decide +kernel
theorem dX7_event_146 : decode cX7_event 146 = .ok (.getfield 11, 3) := by decide +kernel
theorem dX7_event_149 : decode cX7_event 149 = .ok (.bipush 30, 2) := by decide +kernel
theorem dX7_event_151 : decode cX7_event 151 = .ok (.iaload, 1) := by decide +kernel
theorem dX7_event_152 : decode cX7_event 152 = .ok (.ireturn, 1) := by decide +kernel
theorem dX7_happens_0 : decode cX7_happens 0 = .ok (.iload_n 1, 1) := by decide +kernel
theorem dX7_happens_1 : decode cX7_happens 1 = .ok (.ifCond .ne 46, 3) := by decide +kernel
theorem dX7_happens_4 : decode cX7_happens 4 = .ok (.aload_n 0, 1) := by decide +kernel
theorem dX7_happens_5 : decode cX7_happens 5 = .ok (.getfield 11, 3) := by decide +kernel
theorem dX7_happens_8 : decode cX7_happens 8 = .ok (.iconst 0, 1) := by decide +kernel
theorem dX7_happens_9 : decode cX7_happens 9 = .ok (.aload_n 0, 1) := by decide +kernel
theorem dX7_happens_10 : decode cX7_happens 10 = .ok (.getfield 11, 3) := by decide +kernel
theorem dX7_happens_13 : decode cX7_happens 13 = .ok (.iconst 0, 1) := by decide +kernel
theorem dX7_happens_14 : decode cX7_happens 14 = .ok (.iaload, 1) := by decide +kernel
theorem dX7_happens_15 : decode cX7_happens 15 = .ok (.iconst 2, 1) := by decide +kernel
theorem dX7_happens_16 : decode cX7_happens 16 = .ok (.if_icmp .ne 7, 3) := by decide +kernel
theorem dX7_happens_19 : decode cX7_happens 19 = .ok (.iconst 3, 1) := by decide +kernel
theorem dX7_happens_20 : decode cX7_happens 20 = .ok (.goto 26, 3) := by decide +kernel
theorem dX7_happens_23 : decode cX7_happens 23 = .ok (.aload_n 0, 1) := by decide +kernel
theorem dX7_happens_24 : decode cX7_happens 24 = .ok (.getfield 11, 3) := by decide +kernel
theorem dX7_happens_27 : decode cX7_happens 27 = .ok (.iconst 0, 1) := by decide +kernel
theorem dX7_happens_28 : decode cX7_happens 28 = .ok (.iaload, 1) := by decide +kernel
theorem dX7_happens_29 : decode cX7_happens 29 = .ok (.bipush 7, 2) := by decide +kernel
theorem dX7_happens_31 : decode cX7_happens 31 = .ok (.if_icmp .ne 7, 3) := by decide +kernel
theorem dX7_happens_34 : decode cX7_happens 34 = .ok (.iconst 2, 1) := by decide +kernel
theorem dX7_happens_35 : decode cX7_happens 35 = .ok (.goto 11, 3) := by decide +kernel
theorem dX7_happens_38 : decode cX7_happens 38 = .ok (.aload_n 0, 1) := by decide +kernel
theorem dX7_happens_39 : decode cX7_happens 39 = .ok (.getfield 11, 3) := by decide +kernel
theorem dX7_happens_42 : decode cX7_happens 42 = .ok (.iconst 0, 1) := by decide +kernel
theorem dX7_happens_43 : decode cX7_happens 43 = .ok (.iaload, 1) := by decide +kernel
theorem dX7_happens_44 : decode cX7_happens 44 = .ok (.iconst 2, 1) := by decide +kernel
theorem dX7_happens_45 : decode cX7_happens 45 = .ok (.iadd, 1) := by decide +kernel
theorem dX7_happens_46 : decode cX7_happens 46 = .ok (.iastore, 1) := by decide +kernel
theorem dX7_happens_47 : decode cX7_happens 47 = .ok (.iload_n 1, 1) := by decide +kernel
theorem dX7_happens_48 : decode cX7_happens 48 = .ok (.iconst 1, 1) := by decide +kernel
theorem dX7_happens_49 : decode cX7_happens 49 = .ok (.if_icmp .ne 10, 3) := by decide +kernel
theorem dX7_happens_52 : decode cX7_happens 52 = .ok (.aload_n 0, 1) := by decide +kernel
theorem dX7_happens_53 : decode cX7_happens 53 = .ok (.getfield 11, 3) := by decide +kernel
theorem dX7_happens_56 : decode cX7_happens 56 = .ok (.iconst 1, 1) := by decide +kernel
theorem dX7_happens_57 : decode cX7_happens 57 = .ok (.iload_n 2, 1) := by decide +kernel
theorem dX7_happens_58 : decode cX7_happens 58 = .ok (.iastore, 1) := by decide +kernel
theorem dX7_happens_59 : decode cX7_happens 59 = .ok (.iload_n 1, 1) := by decide +kernel
theorem dX7_happens_60 : decode cX7_happens 60 = .ok (.iconst 2, 1) := by decide +kernel
theorem dX7_happens_61 : decode cX7_happens 61 = .ok (.if_icmp .ne 22, 3) := by decide +kernel
theorem dX7_happens_64 : decode cX7_happens 64 = .ok (.aload_n 0, 1) := by decide +kernel
theorem dX7_happens_65 : decode cX7_happens 65 = .ok (.getfield 11, 3) := by decide +kernel
theorem dX7_happens_68 : decode cX7_happens 68 = .ok (.iconst 2, 1) := by decide +kernel
theorem dX7_happens_69 : decode cX7_happens 69 = .ok (.bipush 127, 2) := by decide +kernel
theorem dX7_happens_71 : decode cX7_happens 71 = .ok (.aload_n 0, 1) := by decide +kernel
theorem dX7_happens_72 : decode cX7_happens 72 = .ok (.getfield 11, 3) := by decide +kernel
theorem dX7_happens_75 : decode cX7_happens 75 = .ok (.iconst 2, 1) := by decide +kernel
theorem dX7_happens_76 : decode cX7_happens 76 = .ok (.iaload, 1) := by decide +kernel
theorem dX7_happens_77 : decode cX7_happens 77 = .ok (.iload_n 2, 1) := by decide +kernel
theorem dX7_happens_78 : decode cX7_happens 78 = .ok (.iadd, 1) := by decide +kernel
theorem dX7_happens_79 : decode cX7_happens 79 = .ok (.invokestatic 195, 3) := by decide +kernel
theorem dX7_happens_82 : decode cX7_happens 82 = .ok (.iastore, 1) := by decide +kernel
theorem dX7_happens_83 : decode cX7_happens 83 = .ok (.iload_n 1, 1) := by decide +kernel
theorem dX7_happens_84 : decode cX7_happens 84 = .ok (.iconst 3, 1) := by decide +kernel
theorem dX7_happens_85 : decode cX7_happens 85 = .ok (.if_icmp .ne 62, 3) := by decide +kernel
theorem dX7_happens_88 : decode cX7_happens 88 = .ok (.iload_n 2, 1) := by decide +kernel
theorem dX7_happens_89 : decode cX7_happens 89 = .ok (.aload_n 0, 1) := by decide +kernel
theorem dX7_happens_90 : decode cX7_happens 90 = .ok (.getfield 11, 3) := by decide +kernel
theorem dX7_happens_93 : decode cX7_happens 93 = .ok (.iconst 4, 1) := by decide +kernel
theorem dX7_happens_94 : decode cX7_happens 94 = .ok (.iaload, 1) := by decide +kernel
theorem dX7_happens_95 : decode cX7_happens 95 = .ok (.if_icmp .ge 52, 3) := by decide +kernel
theorem dX7_happens_98 : decode cX7_happens 98 = .ok (.aload_n 0, 1) := by decide +kernel
theorem dX7_happens_99 : decode cX7_happens 99 = .ok (.getfield 11, 3) := by decide +kernel
theorem dX7_happens_102 : decode cX7_happens 102 = .ok (.iconst 4, 1) := by decide +kernel
theorem dX7_happens_103 : decode cX7_happens 103 = .ok (.dup2, 1) := by decide +kernel
theorem dX7_happens_104 : decode cX7_happens 104 = .ok (.iaload, 1) := by decide +kernel
theorem dX7_happens_105 : decode cX7_happens 105 = .ok (.iconst 1, 1) := by decide +kernel
theorem dX7_happens_106 : decode cX7_happens 106 = .ok (.isub, 1) := by decide +kernel
theorem dX7_happens_107 : decode cX7_happens 107 = .ok (.iastore, 1) := by decide +kernel
theorem dX7_happens_108 : decode cX7_happens 108 = .ok (.iconst 2, 1) := by decide +kernel
theorem dX7_happens_109 : decode cX7_happens 109 = .ok (.iload_n 2, 1) := by decide +kernel
theorem dX7_happens_110 : decode cX7_happens 110 = .ok (.imul, 1) := by decide +kernel
theorem dX7_happens_111 : decode cX7_happens 111 = .ok (.istore_n 3, 1) := by decide +kernel
theorem dX7_happens_112 : decode cX7_happens 112 = .ok (.iload_n 3, 1) := by decide +kernel
theorem dX7_happens_113 : decode cX7_happens 113 = .ok (.iconst 2, 1) := by decide +kernel
theorem dX7_happens_114 : decode cX7_happens 114 = .ok (.aload_n 0, 1) := by decide +kernel
theorem dX7_happens_115 : decode cX7_happens 115 = .ok (.getfield 11, 3) := by decide +kernel
theorem dX7_happens_118 : decode cX7_happens 118 = .ok (.iconst 4, 1) := by decide +kernel
theorem dX7_happens_119 : decode cX7_happens 119 = .ok (.iaload, 1) := by decide +kernel
theorem dX7_happens_120 : decode cX7_happens 120 = .ok (.imul, 1) := by decide +kernel
theorem dX7_happens_121 : decode cX7_happens 121 = .ok (.if_icmp .ge 26, 3) := by decide +kernel
theorem dX7_happens_124 : decode cX7_happens 124 = .ok (.aload_n 0, 1) := by decide +kernel
theorem dX7_happens_125 : decode cX7_happens 125 = .ok (.getfield 11, 3) := by decide +kernel
theorem dX7_happens_128 : decode cX7_happens 128 = .ok (.iconst 5, 1) := by decide +kernel
theorem dX7_happens_129 : decode cX7_happens 129 = .ok (.iload_n 3, 1) := by decide +kernel
theorem dX7_happens_130 : decode cX7_happens 130 = .ok (.iadd, 1) := by decide +kernel
theorem dX7_happens_131 : decode cX7_happens 131 = .ok (.aload_n 0, 1) := by decide +kernel
theorem dX7_happens_132 : decode cX7_happens 132 = .ok (.getfield 11, 3) := by decide +kernel
theorem dX7_happens_135 : decode cX7_happens 135 = .ok (.bipush 7, 2) := by decide +kernel
theorem dX7_happens_137 : decode cX7_happens 137 = .ok (.iload_n 3, 1) := by decide +kernel
theorem dX7_happens_138 : decode cX7_happens 138 = .ok (.iadd, 1) := by decide +kernel
theorem dX7_happens_139 : decode cX7_happens 139 = .ok (.iaload, 1) := by decide +kernel
theorem dX7_happens_140 : decode cX7_happens 140 = .ok (.iastore, 1) := by decide +kernel
theorem dX7_happens_141 : decode cX7_happens 141 = .ok (.iinc 3 1, 3) := by decide +kernel
theorem dX7_happens_144 : decode cX7_happens 144 = .ok (.goto (-32), 3) := by decide +kernel
theorem dX7_happens_147 : decode cX7_happens 147 = .ok (.return_, 1) := by decide +kernel
set_option maxRecDepth 20000 in
theorem ggX7_after_X7_isIn : GoodIn wsX7_after wsX7_isIn := goodIn_r _ [7] (by decide +kernel) (by decide +kernel)
set_option maxRecDepth 20000 in
theorem gX7_after_X7_isIn : GoodIn wsX7_after (va_wsS RX7 55 yX7_isIn wsX7_isIn) := goodIn_app (goodIn_of _ (by decide +kernel)) ggX7_after_X7_isIn
set_option maxRecDepth 20000 in
theorem ggX7_after_X7_copies : GoodIn wsX7_after wsX7_copies := goodIn_r _ [10] (by decide +kernel) (by decide +kernel)
set_option maxRecDepth 20000 in
theorem gX7_after_X7_copies : GoodIn wsX7_after (va_wsS RX7 198 yX7_copies wsX7_copies) := goodIn_app (goodIn_of _ (by decide +kernel)) ggX7_after_X7_copies
set_option maxRecDepth 20000 in
theorem ggX7_after_X7_happens : GoodIn wsX7_after wsX7_happens := goodIn_r _ [14, 2, 15, 16, 17, 18, 74, 75, 76, 77, 78, 79, 80, 81, 82, 83, 84, 85, 86, 87, 88] (by decide +kernel) (by decide +kernel)
set_option maxRecDepth 20000 in
theorem gX7_after_X7_happens : GoodIn wsX7_after (wsV RX7 202 RX7 yX7_happens wsX7_happens) := goodIn_app (goodIn_of _ (by decide +kernel)) ggX7_after_X7_happens
set_option maxRecDepth 20000 in
theorem ggX7_after_X7_markedInWindow : GoodIn wsX7_after wsX7_markedInWindow := goodIn_r _ [22, 2, 23, 24, 25, 6, 26, 27, 28, 29, 30, 31, 32, 33, 4, 5, 7, 34, 35, 36, 37, 38, 39, 40, 41, 42, 43, 44, 45, 46, 47, 48, 49, 50, 51, 52, 53, 54, 55, 56, 57, 58, 59, 60, 61, 62, 63, 64, 65, 66, 67, 68, 69, 70, 71, 72, 73, 74, 75, 76, 77, 78, 79, 80, 81, 82, 83, 84, 85, 86, 87, 88] (by decide +kernel) (by decide +kernel)
set_option maxRecDepth 20000 in
theorem gX7_after_X7_markedInWindow : GoodIn wsX7_after (wsV RX7 152 RX7 yX7_markedInWindow wsX7_markedInWindow) := goodIn_app (goodIn_of _ (by decide +kernel)) ggX7_after_X7_markedInWindow
set_option maxRecDepth 20000 in
theorem ggX7_after_X7_modulus : GoodIn wsX7_after wsX7_modulus := goodIn_r _ [46, 2, 47, 48, 6, 49, 74, 75, 76, 77, 78, 79, 80, 81, 82, 83, 84, 85, 86, 87, 88] (by decide +kernel) (by decide +kernel)
set_option maxRecDepth 20000 in
theorem gX7_after_X7_modulus : GoodIn wsX7_after (wsV RX7 45 RX7 yX7_modulus wsX7_modulus) := goodIn_app (goodIn_of _ (by decide +kernel)) ggX7_after_X7_modulus
theorem dX7_after_0 : decode cX7_after 0 = .ok (.iload_n 1, 1) := by decide +kernel
theorem dX7_after_1 : decode cX7_after 1 = .ok (.i2l, 1) := by decide +kernel
theorem dX7_after_2 : decode cX7_after 2 = .ok (.lconst 0, 1) := by decide +kernel
theorem dX7_after_3 : decode cX7_after 3 = .ok (.ldc2_w 170, 3) := by decide +kernel
theorem dX7_after_6 : decode cX7_after 6 = .ok (.invokestatic 55, 3) := by decide +kernel
theorem dX7_after_9 : decode cX7_after 9 = .ok (.ifCond .ne 5, 3) := by decide +kernel
theorem dX7_after_12 : decode cX7_after 12 = .ok (.iconst (-1), 1) := by decide +kernel
theorem dX7_after_13 : decode cX7_after 13 = .ok (.ireturn, 1) := by decide +kernel
theorem dX7_after_14 : decode cX7_after 14 = .ok (.aload_n 0, 1) := by decide +kernel
theorem dX7_after_15 : decode cX7_after 15 = .ok (.getfield 11, 3) := by decide +kernel
theorem dX7_after_18 : decode cX7_after 18 = .ok (.aload_n 0, 1) := by decide +kernel
theorem dX7_after_19 : decode cX7_after 19 = .ok (.getfield 18, 3) := by decide +kernel
theorem dX7_after_22 : decode cX7_after 22 = .ok (.invokestatic 198, 3) := by decide +kernel
theorem dX7_after_25 : decode cX7_after 25 = .ok (.iconst 0, 1) := by decide +kernel
theorem dX7_after_26 : decode cX7_after 26 = .ok (.istore_n 2, 1) := by decide +kernel
theorem dX7_after_27 : decode cX7_after 27 = .ok (.iload_n 2, 1) := by decide +kernel
theorem dX7_after_28 : decode cX7_after 28 = .ok (.aload_n 0, 1) := by decide +kernel
theorem dX7_after_29 : decode cX7_after 29 = .ok (.getfield 18, 3) := by decide +kernel
theorem dX7_after_32 : decode cX7_after 32 = .ok (.bipush 30, 2) := by decide +kernel
theorem dX7_after_34 : decode cX7_after 34 = .ok (.iaload, 1) := by decide +kernel
theorem dX7_after_35 : decode cX7_after 35 = .ok (.if_icmp .ge 35, 3) := by decide +kernel
theorem dX7_after_38 : decode cX7_after 38 = .ok (.aload_n 0, 1) := by decide +kernel
theorem dX7_after_39 : decode cX7_after 39 = .ok (.aload_n 0, 1) := by decide +kernel
theorem dX7_after_40 : decode cX7_after 40 = .ok (.getfield 18, 3) := by decide +kernel
theorem dX7_after_43 : decode cX7_after 43 = .ok (.bipush 31, 2) := by decide +kernel
theorem dX7_after_45 : decode cX7_after 45 = .ok (.iconst 2, 1) := by decide +kernel
theorem dX7_after_46 : decode cX7_after 46 = .ok (.iload_n 2, 1) := by decide +kernel
theorem dX7_after_47 : decode cX7_after 47 = .ok (.imul, 1) := by decide +kernel
theorem dX7_after_48 : decode cX7_after 48 = .ok (.iadd, 1) := by decide +kernel
theorem dX7_after_49 : decode cX7_after 49 = .ok (.iaload, 1) := by decide +kernel
theorem dX7_after_50 : decode cX7_after 50 = .ok (.aload_n 0, 1) := by decide +kernel
theorem dX7_after_51 : decode cX7_after 51 = .ok (.getfield 18, 3) := by decide +kernel
theorem dX7_after_54 : decode cX7_after 54 = .ok (.bipush 32, 2) := by decide +kernel
theorem dX7_after_56 : decode cX7_after 56 = .ok (.iconst 2, 1) := by decide +kernel
theorem dX7_after_57 : decode cX7_after 57 = .ok (.iload_n 2, 1) := by decide +kernel
theorem dX7_after_58 : decode cX7_after 58 = .ok (.imul, 1) := by decide +kernel
theorem dX7_after_59 : decode cX7_after 59 = .ok (.iadd, 1) := by decide +kernel
theorem dX7_after_60 : decode cX7_after 60 = .ok (.iaload, 1) := by decide +kernel
theorem dX7_after_61 : decode cX7_after 61 = .ok (.invokevirtual 202, 3) := by decide +kernel
theorem dX7_after_64 : decode cX7_after 64 = .ok (.iinc 2 1, 3) := by decide +kernel
theorem dX7_after_67 : decode cX7_after 67 = .ok (.goto (-40), 3) := by decide +kernel
theorem dX7_after_70 : decode cX7_after 70 = .ok (.iload_n 1, 1) := by decide +kernel
theorem dX7_after_71 : decode cX7_after 71 = .ok (.ifCond .ne 10, 3) := by decide +kernel
theorem dX7_after_74 : decode cX7_after 74 = .ok (.aload_n 0, 1) := by decide +kernel
theorem dX7_after_75 : decode cX7_after 75 = .ok (.invokevirtual 152, 3) := by decide +kernel
theorem dX7_after_78 : decode cX7_after 78 = .ok (.goto 21, 3) := by decide +kernel
theorem dX7_after_81 : decode cX7_after 81 = .ok (.iload_n 1, 1) := by decide +kernel
theorem dX7_after_82 : decode cX7_after 82 = .ok (.iconst 1, 1) := by decide +kernel
theorem dX7_after_83 : decode cX7_after 83 = .ok (.if_icmp .ne 10, 3) := by decide +kernel
theorem dX7_after_86 : decode cX7_after 86 = .ok (.aload_n 0, 1) := by decide +kernel
theorem dX7_after_87 : decode cX7_after 87 = .ok (.invokevirtual 45, 3) := by decide +kernel
theorem dX7_after_90 : decode cX7_after 90 = .ok (.goto 9, 3) := by decide +kernel
theorem dX7_after_93 : decode cX7_after 93 = .ok (.aload_n 0, 1) := by decide +kernel
theorem dX7_after_94 : decode cX7_after 94 = .ok (.getfield 11, 3) := by decide +kernel
theorem dX7_after_97 : decode cX7_after 97 = .ok (.iconst 4, 1) := by decide +kernel
theorem dX7_after_98 : decode cX7_after 98 = .ok (.iaload, 1) := by decide +kernel
theorem dX7_after_99 : decode cX7_after 99 = .ok (.istore_n 2, 1) := by decide +kernel
theorem dX7_after_100 : decode cX7_after 100 = .ok (.aload_n 0, 1) := by decide +kernel
theorem dX7_after_101 : decode cX7_after 101 = .ok (.getfield 18, 3) := by decide +kernel
theorem dX7_after_104 : decode cX7_after 104 = .ok (.aload_n 0, 1) := by decide +kernel
theorem dX7_after_105 : decode cX7_after 105 = .ok (.getfield 11, 3) := by decide +kernel
theorem dX7_after_108 : decode cX7_after 108 = .ok (.invokestatic 198, 3) := by decide +kernel
theorem dX7_after_111 : decode cX7_after 111 = .ok (.iload_n 2, 1) := by decide +kernel
theorem dX7_after_112 : decode cX7_after 112 = .ok (.ireturn, 1) := by decide +kernel
set_option maxRecDepth 20000 in
theorem ggX7_book_X7_isRow : GoodIn wsX7_book wsX7_isRow := goodIn_r _ [6, 7, 8, 9, 5, 10] (by decide +kernel) (by decide +kernel)
set_option maxRecDepth 20000 in
theorem gX7_book_X7_isRow : GoodIn wsX7_book (va_wsS RX7 77 yX7_isRow wsX7_isRow) := goodIn_app (goodIn_of _ (by decide +kernel)) ggX7_book_X7_isRow
set_option maxRecDepth 20000 in
theorem ggX7_book_X7_isIn : GoodIn wsX7_book wsX7_isIn := goodIn_r _ [10] (by decide +kernel) (by decide +kernel)
set_option maxRecDepth 20000 in
theorem gX7_book_X7_isIn : GoodIn wsX7_book (va_wsS RX7 55 yX7_isIn wsX7_isIn) := goodIn_app (goodIn_of _ (by decide +kernel)) ggX7_book_X7_isIn
theorem dX7_book_0 : decode cX7_book 0 = .ok (.iload_n 1, 1) := by decide +kernel
theorem dX7_book_1 : decode cX7_book 1 = .ok (.iconst (-1), 1) := by decide +kernel
theorem dX7_book_2 : decode cX7_book 2 = .ok (.if_icmp .ne 13, 3) := by decide +kernel
theorem dX7_book_5 : decode cX7_book 5 = .ok (.aload_n 0, 1) := by decide +kernel
theorem dX7_book_6 : decode cX7_book 6 = .ok (.getfield 11, 3) := by decide +kernel
theorem dX7_book_9 : decode cX7_book 9 = .ok (.bipush 47, 2) := by decide +kernel
theorem dX7_book_11 : decode cX7_book 11 = .ok (.iconst 0, 1) := by decide +kernel
theorem dX7_book_12 : decode cX7_book 12 = .ok (.iastore, 1) := by decide +kernel
theorem dX7_book_13 : decode cX7_book 13 = .ok (.iconst 0, 1) := by decide +kernel
theorem dX7_book_14 : decode cX7_book 14 = .ok (.ireturn, 1) := by decide +kernel
theorem dX7_book_15 : decode cX7_book 15 = .ok (.iload_n 1, 1) := by decide +kernel
theorem dX7_book_16 : decode cX7_book 16 = .ok (.invokestatic 77, 3) := by decide +kernel
theorem dX7_book_19 : decode cX7_book 19 = .ok (.ifCond .ne 5, 3) := by decide +kernel
theorem dX7_book_22 : decode cX7_book 22 = .ok (.iconst (-1), 1) := by decide +kernel
theorem dX7_book_23 : decode cX7_book 23 = .ok (.ireturn, 1) := by decide +kernel
theorem dX7_book_24 : decode cX7_book 24 = .ok (.iload_n 2, 1) := by decide +kernel
theorem dX7_book_25 : decode cX7_book 25 = .ok (.i2l, 1) := by decide +kernel
theorem dX7_book_26 : decode cX7_book 26 = .ok (.lconst 0, 1) := by decide +kernel
theorem dX7_book_27 : decode cX7_book 27 = .ok (.ldc2_w 97, 3) := by decide +kernel
theorem dX7_book_30 : decode cX7_book 30 = .ok (.invokestatic 55, 3) := by decide +kernel
theorem dX7_book_33 : decode cX7_book 33 = .ok (.ifCond .ne 6, 3) := by decide +kernel
theorem dX7_book_36 : decode cX7_book 36 = .ok (.bipush (-2), 2) := by decide +kernel
theorem dX7_book_38 : decode cX7_book 38 = .ok (.ireturn, 1) := by decide +kernel
theorem dX7_book_39 : decode cX7_book 39 = .ok (.aload_n 0, 1) := by decide +kernel
theorem dX7_book_40 : decode cX7_book 40 = .ok (.getfield 11, 3) := by decide +kernel
theorem dX7_book_43 : decode cX7_book 43 = .ok (.bipush 47, 2) := by decide +kernel
theorem dX7_book_45 : decode cX7_book 45 = .ok (.iaload, 1) := by decide +kernel
theorem dX7_book_46 : decode cX7_book 46 = .ok (.bipush 8, 2) := by decide +kernel
theorem dX7_book_48 : decode cX7_book 48 = .ok (.if_icmp .ne 6, 3) := by decide +kernel
theorem dX7_book_51 : decode cX7_book 51 = .ok (.bipush (-4), 2) := by decide +kernel
theorem dX7_book_53 : decode cX7_book 53 = .ok (.ireturn, 1) := by decide +kernel
theorem dX7_book_54 : decode cX7_book 54 = .ok (.aload_n 0, 1) := by decide +kernel
theorem dX7_book_55 : decode cX7_book 55 = .ok (.getfield 11, 3) := by decide +kernel
theorem dX7_book_58 : decode cX7_book 58 = .ok (.bipush 48, 2) := by decide +kernel
theorem dX7_book_60 : decode cX7_book 60 = .ok (.iconst 2, 1) := by decide +kernel
theorem dX7_book_61 : decode cX7_book 61 = .ok (.aload_n 0, 1) := by decide +kernel
theorem dX7_book_62 : decode cX7_book 62 = .ok (.getfield 11, 3) := by decide +kernel
theorem dX7_book_65 : decode cX7_book 65 = .ok (.bipush 47, 2) := by decide +kernel
theorem dX7_book_67 : decode cX7_book 67 = .ok (.iaload, 1) := by decide +kernel
theorem dX7_book_68 : decode cX7_book 68 = .ok (.imul, 1) := by decide +kernel
theorem dX7_book_69 : decode cX7_book 69 = .ok (.iadd, 1) := by decide +kernel
theorem dX7_book_70 : decode cX7_book 70 = .ok (.iload_n 1, 1) := by decide +kernel
theorem dX7_book_71 : decode cX7_book 71 = .ok (.iastore, 1) := by decide +kernel
theorem dX7_book_72 : decode cX7_book 72 = .ok (.aload_n 0, 1) := by decide +kernel
theorem dX7_book_73 : decode cX7_book 73 = .ok (.getfield 11, 3) := by decide +kernel
theorem dX7_book_76 : decode cX7_book 76 = .ok (.bipush 49, 2) := by decide +kernel
theorem dX7_book_78 : decode cX7_book 78 = .ok (.iconst 2, 1) := by decide +kernel
theorem dX7_book_79 : decode cX7_book 79 = .ok (.aload_n 0, 1) := by decide +kernel
theorem dX7_book_80 : decode cX7_book 80 = .ok (.getfield 11, 3) := by decide +kernel
theorem dX7_book_83 : decode cX7_book 83 = .ok (.bipush 47, 2) := by decide +kernel
theorem dX7_book_85 : decode cX7_book 85 = .ok (.iaload, 1) := by decide +kernel
theorem dX7_book_86 : decode cX7_book 86 = .ok (.imul, 1) := by decide +kernel
theorem dX7_book_87 : decode cX7_book 87 = .ok (.iadd, 1) := by decide +kernel
theorem dX7_book_88 : decode cX7_book 88 = .ok (.iload_n 2, 1) := by decide +kernel
theorem dX7_book_89 : decode cX7_book 89 = .ok (.iastore, 1) := by decide +kernel
theorem dX7_book_90 : decode cX7_book 90 = .ok (.aload_n 0, 1) := by decide +kernel
theorem dX7_book_91 : decode cX7_book 91 = .ok (.getfield 11, 3) := by decide +kernel
theorem dX7_book_94 : decode cX7_book 94 = .ok (.bipush 47, 2) := by decide +kernel
theorem dX7_book_96 : decode cX7_book 96 = .ok (.dup2, 1) := by decide +kernel
theorem dX7_book_97 : decode cX7_book 97 = .ok (.iaload, 1) := by decide +kernel
theorem dX7_book_98 : decode cX7_book 98 = .ok (.iconst 1, 1) := by decide +kernel
theorem dX7_book_99 : decode cX7_book 99 = .ok (.iadd, 1) := by decide +kernel
theorem dX7_book_100 : decode cX7_book 100 = .ok (.iastore, 1) := by decide +kernel
theorem dX7_book_101 : decode cX7_book 101 = .ok (.aload_n 0, 1) := by decide +kernel
theorem dX7_book_102 : decode cX7_book 102 = .ok (.getfield 11, 3) := by decide +kernel
theorem dX7_book_105 : decode cX7_book 105 = .ok (.bipush 47, 2) := by decide +kernel
theorem dX7_book_107 : decode cX7_book 107 = .ok (.iaload, 1) := by decide +kernel
theorem dX7_book_108 : decode cX7_book 108 = .ok (.ireturn, 1) := by decide +kernel
set_option maxRecDepth 20000 in
theorem ggX7_looked_X7_remainder : GoodIn wsX7_looked wsX7_remainder := goodIn_r _ [6, 7, 8, 9, 10, 11, 5, 12, 1, 13, 14, 15, 16, 17, 18, 19, 20, 21, 22, 23, 24, 25, 26, 27, 28, 29, 30, 31, 32, 33, 34, 35, 36, 37, 38] (by decide +kernel) (by decide +kernel)
set_option maxRecDepth 20000 in
theorem gX7_looked_X7_remainder : GoodIn wsX7_looked (wsV RX7 62 RX7 yX7_remainder wsX7_remainder) := goodIn_app (goodIn_of _ (by decide +kernel)) ggX7_looked_X7_remainder
theorem dX7_looked_0 : decode cX7_looked 0 = .ok (.iconst 0, 1) := by decide +kernel
theorem dX7_looked_1 : decode cX7_looked 1 = .ok (.istore_n 1, 1) := by decide +kernel
theorem dX7_looked_2 : decode cX7_looked 2 = .ok (.iload_n 1, 1) := by decide +kernel
theorem dX7_looked_3 : decode cX7_looked 3 = .ok (.aload_n 0, 1) := by decide +kernel
theorem dX7_looked_4 : decode cX7_looked 4 = .ok (.getfield 11, 3) := by decide +kernel
theorem dX7_looked_7 : decode cX7_looked 7 = .ok (.bipush 47, 2) := by decide +kernel
theorem dX7_looked_9 : decode cX7_looked 9 = .ok (.iaload, 1) := by decide +kernel
theorem dX7_looked_10 : decode cX7_looked 10 = .ok (.if_icmp .ge 42, 3) := by decide +kernel
theorem dX7_looked_13 : decode cX7_looked 13 = .ok (.aload_n 0, 1) := by decide +kernel
theorem dX7_looked_14 : decode cX7_looked 14 = .ok (.aload_n 0, 1) := by decide +kernel
theorem dX7_looked_15 : decode cX7_looked 15 = .ok (.getfield 11, 3) := by decide +kernel
theorem dX7_looked_18 : decode cX7_looked 18 = .ok (.bipush 48, 2) := by decide +kernel
theorem dX7_looked_20 : decode cX7_looked 20 = .ok (.iconst 2, 1) := by decide +kernel
theorem dX7_looked_21 : decode cX7_looked 21 = .ok (.iload_n 1, 1) := by decide +kernel
theorem dX7_looked_22 : decode cX7_looked 22 = .ok (.imul, 1) := by decide +kernel
theorem dX7_looked_23 : decode cX7_looked 23 = .ok (.iadd, 1) := by decide +kernel
theorem dX7_looked_24 : decode cX7_looked 24 = .ok (.iaload, 1) := by decide +kernel
theorem dX7_looked_25 : decode cX7_looked 25 = .ok (.bipush 10, 2) := by decide +kernel
theorem dX7_looked_27 : decode cX7_looked 27 = .ok (.invokevirtual 62, 3) := by decide +kernel
theorem dX7_looked_30 : decode cX7_looked 30 = .ok (.aload_n 0, 1) := by decide +kernel
theorem dX7_looked_31 : decode cX7_looked 31 = .ok (.getfield 11, 3) := by decide +kernel
theorem dX7_looked_34 : decode cX7_looked 34 = .ok (.bipush 49, 2) := by decide +kernel
theorem dX7_looked_36 : decode cX7_looked 36 = .ok (.iconst 2, 1) := by decide +kernel
theorem dX7_looked_37 : decode cX7_looked 37 = .ok (.iload_n 1, 1) := by decide +kernel
theorem dX7_looked_38 : decode cX7_looked 38 = .ok (.imul, 1) := by decide +kernel
theorem dX7_looked_39 : decode cX7_looked 39 = .ok (.iadd, 1) := by decide +kernel
theorem dX7_looked_40 : decode cX7_looked 40 = .ok (.iaload, 1) := by decide +kernel
theorem dX7_looked_41 : decode cX7_looked 41 = .ok (.if_icmp .eq 5, 3) := by decide +kernel
theorem dX7_looked_44 : decode cX7_looked 44 = .ok (.iload_n 1, 1) := by decide +kernel
theorem dX7_looked_45 : decode cX7_looked 45 = .ok (.ireturn, 1) := by decide +kernel
theorem dX7_looked_46 : decode cX7_looked 46 = .ok (.iinc 1 1, 3) := by decide +kernel
theorem dX7_looked_49 : decode cX7_looked 49 = .ok (.goto (-47), 3) := by decide +kernel
theorem dX7_looked_52 : decode cX7_looked 52 = .ok (.bipush (-5), 2) := by decide +kernel
theorem dX7_looked_54 : decode cX7_looked 54 = .ok (.ireturn, 1) := by decide +kernel
set_option maxRecDepth 20000 in
theorem ggX7_isTape_X7_isIn : GoodIn wsX7_isTape wsX7_isIn := goodIn_r _ [5] (by decide +kernel) (by decide +kernel)
set_option maxRecDepth 20000 in
theorem gX7_isTape_X7_isIn : GoodIn wsX7_isTape (va_wsS RX7 55 yX7_isIn wsX7_isIn) := goodIn_app (goodIn_of _ (by decide +kernel)) ggX7_isTape_X7_isIn
theorem dX7_isTape_0 : decode cX7_isTape 0 = .ok (.iload_n 0, 1) := by decide +kernel
theorem dX7_isTape_1 : decode cX7_isTape 1 = .ok (.i2l, 1) := by decide +kernel
theorem dX7_isTape_2 : decode cX7_isTape 2 = .ok (.lconst 0, 1) := by decide +kernel
theorem dX7_isTape_3 : decode cX7_isTape 3 = .ok (.ldc2_w 193, 3) := by decide +kernel
theorem dX7_isTape_6 : decode cX7_isTape 6 = .ok (.invokestatic 55, 3) := by decide +kernel
theorem dX7_isTape_9 : decode cX7_isTape 9 = .ok (.ireturn, 1) := by decide +kernel
set_option maxRecDepth 20000 in
theorem ggX7_isItem_X7_isIn : GoodIn wsX7_isItem wsX7_isIn := goodIn_r _ [5] (by decide +kernel) (by decide +kernel)
set_option maxRecDepth 20000 in
theorem gX7_isItem_X7_isIn : GoodIn wsX7_isItem (va_wsS RX7 55 yX7_isIn wsX7_isIn) := goodIn_app (goodIn_of _ (by decide +kernel)) ggX7_isItem_X7_isIn
theorem dX7_isItem_0 : decode cX7_isItem 0 = .ok (.iload_n 2, 1) := by decide +kernel
theorem dX7_isItem_1 : decode cX7_isItem 1 = .ok (.i2l, 1) := by decide +kernel
theorem dX7_isItem_2 : decode cX7_isItem 2 = .ok (.lconst 0, 1) := by decide +kernel
theorem dX7_isItem_3 : decode cX7_isItem 3 = .ok (.aload_n 0, 1) := by decide +kernel
theorem dX7_isItem_4 : decode cX7_isItem 4 = .ok (.getfield 30, 3) := by decide +kernel
theorem dX7_isItem_7 : decode cX7_isItem 7 = .ok (.iload_n 1, 1) := by decide +kernel
theorem dX7_isItem_8 : decode cX7_isItem 8 = .ok (.iaload, 1) := by decide +kernel
theorem dX7_isItem_9 : decode cX7_isItem 9 = .ok (.iconst 1, 1) := by decide +kernel
theorem dX7_isItem_10 : decode cX7_isItem 10 = .ok (.isub, 1) := by decide +kernel
theorem dX7_isItem_11 : decode cX7_isItem 11 = .ok (.i2l, 1) := by decide +kernel
theorem dX7_isItem_12 : decode cX7_isItem 12 = .ok (.invokestatic 55, 3) := by decide +kernel
theorem dX7_isItem_15 : decode cX7_isItem 15 = .ok (.ireturn, 1) := by decide +kernel
set_option maxRecDepth 20000 in
theorem ggX7_judge_X7_isRow : GoodIn wsX7_judge wsX7_isRow := goodIn_r _ [7, 8, 9, 10, 6, 11] (by decide +kernel) (by decide +kernel)
set_option maxRecDepth 20000 in
theorem gX7_judge_X7_isRow : GoodIn wsX7_judge (va_wsS RX7 77 yX7_isRow wsX7_isRow) := goodIn_app (goodIn_of _ (by decide +kernel)) ggX7_judge_X7_isRow
set_option maxRecDepth 20000 in
theorem ggX7_judge_X7_isTape : GoodIn wsX7_judge wsX7_isTape := goodIn_r _ [14, 15, 9, 10, 6, 11] (by decide +kernel) (by decide +kernel)
set_option maxRecDepth 20000 in
theorem gX7_judge_X7_isTape : GoodIn wsX7_judge (va_wsS RX7 206 yX7_isTape wsX7_isTape) := goodIn_app (goodIn_of _ (by decide +kernel)) ggX7_judge_X7_isTape
set_option maxRecDepth 20000 in
theorem ggX7_judge_X7_remainder : GoodIn wsX7_judge wsX7_remainder := goodIn_r _ [19, 8, 20, 21, 22, 23, 6, 24, 25, 26, 27, 28, 29, 30, 31, 32, 33, 9, 10, 11, 34, 35, 36, 37, 38, 39, 40, 41, 42, 43, 44, 45, 46, 47, 48] (by decide +kernel) (by decide +kernel)
set_option maxRecDepth 20000 in
theorem gX7_judge_X7_remainder : GoodIn wsX7_judge (wsV RX7 62 RX7 yX7_remainder wsX7_remainder) := goodIn_app (goodIn_of _ (by decide +kernel)) ggX7_judge_X7_remainder
theorem dX7_judge_0 : decode cX7_judge 0 = .ok (.iload_n 1, 1) := by decide +kernel
theorem dX7_judge_1 : decode cX7_judge 1 = .ok (.invokestatic 77, 3) := by decide +kernel
theorem dX7_judge_4 : decode cX7_judge 4 = .ok (.ifCond .eq 10, 3) := by decide +kernel
theorem dX7_judge_7 : decode cX7_judge 7 = .ok (.iload_n 2, 1) := by decide +kernel
theorem dX7_judge_8 : decode cX7_judge 8 = .ok (.invokestatic 206, 3) := by decide +kernel
theorem dX7_judge_11 : decode cX7_judge 11 = .ok (.ifCond .ne 5, 3) := by decide +kernel
theorem dX7_judge_14 : decode cX7_judge 14 = .ok (.iconst (-1), 1) := by decide +kernel
theorem dX7_judge_15 : decode cX7_judge 15 = .ok (.ireturn, 1) := by decide +kernel
theorem dX7_judge_16 : decode cX7_judge 16 = .ok (.aload_n 0, 1) := by decide +kernel
theorem dX7_judge_17 : decode cX7_judge 17 = .ok (.getfield 27, 3) := by decide +kernel
theorem dX7_judge_20 : decode cX7_judge 20 = .ok (.iload_n 2, 1) := by decide +kernel
theorem dX7_judge_21 : decode cX7_judge 21 = .ok (.iaload, 1) := by decide +kernel
theorem dX7_judge_22 : decode cX7_judge 22 = .ok (.iconst (-1), 1) := by decide +kernel
theorem dX7_judge_23 : decode cX7_judge 23 = .ok (.if_icmp .eq 16, 3) := by decide +kernel
theorem dX7_judge_26 : decode cX7_judge 26 = .ok (.aload_n 0, 1) := by decide +kernel
theorem dX7_judge_27 : decode cX7_judge 27 = .ok (.getfield 27, 3) := by decide +kernel
theorem dX7_judge_30 : decode cX7_judge 30 = .ok (.iload_n 2, 1) := by decide +kernel
theorem dX7_judge_31 : decode cX7_judge 31 = .ok (.iaload, 1) := by decide +kernel
theorem dX7_judge_32 : decode cX7_judge 32 = .ok (.iconst 1, 1) := by decide +kernel
theorem dX7_judge_33 : decode cX7_judge 33 = .ok (.if_icmp .eq 6, 3) := by decide +kernel
theorem dX7_judge_36 : decode cX7_judge 36 = .ok (.bipush (-12), 2) := by decide +kernel
theorem dX7_judge_38 : decode cX7_judge 38 = .ok (.ireturn, 1) := by decide +kernel
theorem dX7_judge_39 : decode cX7_judge 39 = .ok (.iconst 0, 1) := by decide +kernel
theorem dX7_judge_40 : decode cX7_judge 40 = .ok (.istore 4, 2) := by decide +kernel
theorem dX7_judge_42 : decode cX7_judge 42 = .ok (.iload 4, 2) := by decide +kernel
theorem dX7_judge_44 : decode cX7_judge 44 = .ok (.iload_n 1, 1) := by decide +kernel
theorem dX7_judge_45 : decode cX7_judge 45 = .ok (.if_icmp .gt 62, 3) := by decide +kernel
theorem dX7_judge_48 : decode cX7_judge 48 = .ok (.iload_n 3, 1) := by decide +kernel
theorem dX7_judge_49 : decode cX7_judge 49 = .ok (.ifCond .lt 16, 3) := by decide +kernel
theorem dX7_judge_52 : decode cX7_judge 52 = .ok (.iload 4, 2) := by decide +kernel
theorem dX7_judge_54 : decode cX7_judge 54 = .ok (.aload_n 0, 1) := by decide +kernel
theorem dX7_judge_55 : decode cX7_judge 55 = .ok (.getfield 30, 3) := by decide +kernel
theorem dX7_judge_58 : decode cX7_judge 58 = .ok (.iload_n 2, 1) := by decide +kernel
theorem dX7_judge_59 : decode cX7_judge 59 = .ok (.iaload, 1) := by decide +kernel
theorem dX7_judge_60 : decode cX7_judge 60 = .ok (.iload_n 3, 1) := by decide +kernel
theorem dX7_judge_61 : decode cX7_judge 61 = .ok (.isub, 1) := by decide +kernel
theorem dX7_judge_62 : decode cX7_judge 62 = .ok (.if_icmp .lt 10, 3) := by decide +kernel
theorem dX7_judge_65 : decode cX7_judge 65 = .ok (.sipush 200, 3) := by decide +kernel
theorem dX7_judge_68 : decode cX7_judge 68 = .ok (.iload 4, 2) := by decide +kernel
theorem dX7_judge_70 : decode cX7_judge 70 = .ok (.iadd, 1) := by decide +kernel
theorem dX7_judge_71 : decode cX7_judge 71 = .ok (.ireturn, 1) := by decide +kernel
theorem dX7_judge_72 : decode cX7_judge 72 = .ok (.aload_n 0, 1) := by decide +kernel
theorem dX7_judge_73 : decode cX7_judge 73 = .ok (.getfield 33, 3) := by decide +kernel
theorem dX7_judge_76 : decode cX7_judge 76 = .ok (.bipush 60, 2) := by decide +kernel
theorem dX7_judge_78 : decode cX7_judge 78 = .ok (.iload_n 2, 1) := by decide +kernel
theorem dX7_judge_79 : decode cX7_judge 79 = .ok (.imul, 1) := by decide +kernel
theorem dX7_judge_80 : decode cX7_judge 80 = .ok (.iload_n 3, 1) := by decide +kernel
theorem dX7_judge_81 : decode cX7_judge 81 = .ok (.iadd, 1) := by decide +kernel
theorem dX7_judge_82 : decode cX7_judge 82 = .ok (.iload 4, 2) := by decide +kernel
theorem dX7_judge_84 : decode cX7_judge 84 = .ok (.iadd, 1) := by decide +kernel
theorem dX7_judge_85 : decode cX7_judge 85 = .ok (.laload, 1) := by decide +kernel
theorem dX7_judge_86 : decode cX7_judge 86 = .ok (.aload_n 0, 1) := by decide +kernel
theorem dX7_judge_87 : decode cX7_judge 87 = .ok (.iload_n 1, 1) := by decide +kernel
theorem dX7_judge_88 : decode cX7_judge 88 = .ok (.iload 4, 2) := by decide +kernel
theorem dX7_judge_90 : decode cX7_judge 90 = .ok (.invokevirtual 62, 3) := by decide +kernel
theorem dX7_judge_93 : decode cX7_judge 93 = .ok (.i2l, 1) := by decide +kernel
theorem dX7_judge_94 : decode cX7_judge 94 = .ok (.lcmp, 1) := by decide +kernel
theorem dX7_judge_95 : decode cX7_judge 95 = .ok (.ifCond .eq 6, 3) := by decide +kernel
theorem dX7_judge_98 : decode cX7_judge 98 = .ok (.iload 4, 2) := by decide +kernel
theorem dX7_judge_100 : decode cX7_judge 100 = .ok (.ireturn, 1) := by decide +kernel
theorem dX7_judge_101 : decode cX7_judge 101 = .ok (.iinc 4 1, 3) := by decide +kernel
theorem dX7_judge_104 : decode cX7_judge 104 = .ok (.goto (-62), 3) := by decide +kernel
theorem dX7_judge_107 : decode cX7_judge 107 = .ok (.bipush (-5), 2) := by decide +kernel
theorem dX7_judge_109 : decode cX7_judge 109 = .ok (.ireturn, 1) := by decide +kernel
set_option maxRecDepth 20000 in
theorem ggX7_image_X7_copies : GoodIn wsX7_image wsX7_copies := goodIn_r _ [7] (by decide +kernel) (by decide +kernel)
set_option maxRecDepth 20000 in
theorem gX7_image_X7_copies : GoodIn wsX7_image (va_wsS RX7 198 yX7_copies wsX7_copies) := goodIn_app (goodIn_of _ (by decide +kernel)) ggX7_image_X7_copies
set_option maxRecDepth 20000 in
theorem ggX7_image_X7_modulus : GoodIn wsX7_image wsX7_modulus := goodIn_r _ [11, 1, 12, 13, 6, 14, 15, 16, 17, 18, 19, 20, 21, 22, 23, 24, 25, 26, 27, 28, 29] (by decide +kernel) (by decide +kernel)
set_option maxRecDepth 20000 in
theorem gX7_image_X7_modulus : GoodIn wsX7_image (wsV RX7 45 RX7 yX7_modulus wsX7_modulus) := goodIn_app (goodIn_of _ (by decide +kernel)) ggX7_image_X7_modulus
theorem dX7_image_0 : decode cX7_image 0 = .ok (.aload_n 0, 1) := by decide +kernel
theorem dX7_image_1 : decode cX7_image 1 = .ok (.getfield 11, 3) := by decide +kernel
theorem dX7_image_4 : decode cX7_image 4 = .ok (.aload_n 0, 1) := by decide +kernel
theorem dX7_image_5 : decode cX7_image 5 = .ok (.getfield 15, 3) := by decide +kernel
theorem dX7_image_8 : decode cX7_image 8 = .ok (.invokestatic 198, 3) := by decide +kernel
theorem dX7_image_11 : decode cX7_image 11 = .ok (.aload_n 0, 1) := by decide +kernel
theorem dX7_image_12 : decode cX7_image 12 = .ok (.iconst 1, 1) := by decide +kernel
theorem dX7_image_13 : decode cX7_image 13 = .ok (.putfield 209, 3) := by decide +kernel
theorem dX7_image_16 : decode cX7_image 16 = .ok (.aload_n 0, 1) := by decide +kernel
theorem dX7_image_17 : decode cX7_image 17 = .ok (.invokevirtual 45, 3) := by decide +kernel
theorem dX7_image_20 : decode cX7_image 20 = .ok (.ireturn, 1) := by decide +kernel
set_option maxRecDepth 20000 in
theorem ggX7_undo_X7_copies : GoodIn wsX7_undo wsX7_copies := goodIn_r _ [7] (by decide +kernel) (by decide +kernel)
set_option maxRecDepth 20000 in
theorem gX7_undo_X7_copies : GoodIn wsX7_undo (va_wsS RX7 198 yX7_copies wsX7_copies) := goodIn_app (goodIn_of _ (by decide +kernel)) ggX7_undo_X7_copies
set_option maxRecDepth 20000 in
theorem ggX7_undo_X7_modulus : GoodIn wsX7_undo wsX7_modulus := goodIn_r _ [11, 3, 12, 13, 6, 14, 15, 16, 17, 18, 19, 20, 21, 22, 23, 24, 25, 26, 27, 28, 29] (by decide +kernel) (by decide +kernel)
set_option maxRecDepth 20000 in
theorem gX7_undo_X7_modulus : GoodIn wsX7_undo (wsV RX7 45 RX7 yX7_modulus wsX7_modulus) := goodIn_app (goodIn_of _ (by decide +kernel)) ggX7_undo_X7_modulus
theorem dX7_undo_0 : decode cX7_undo 0 = .ok (.aload_n 0, 1) := by decide +kernel
theorem dX7_undo_1 : decode cX7_undo 1 = .ok (.getfield 209, 3) := by decide +kernel
theorem dX7_undo_4 : decode cX7_undo 4 = .ok (.ifCond .ne 6, 3) := by decide +kernel
theorem dX7_undo_7 : decode cX7_undo 7 = .ok (.bipush (-3), 2) := by decide +kernel
theorem dX7_undo_9 : decode cX7_undo 9 = .ok (.ireturn, 1) := by decide +kernel
theorem dX7_undo_10 : decode cX7_undo 10 = .ok (.aload_n 0, 1) := by decide +kernel
theorem dX7_undo_11 : decode cX7_undo 11 = .ok (.getfield 15, 3) := by decide +kernel
theorem dX7_undo_14 : decode cX7_undo 14 = .ok (.aload_n 0, 1) := by decide +kernel
theorem dX7_undo_15 : decode cX7_undo 15 = .ok (.getfield 11, 3) := by decide +kernel
theorem dX7_undo_18 : decode cX7_undo 18 = .ok (.invokestatic 198, 3) := by decide +kernel
theorem dX7_undo_21 : decode cX7_undo 21 = .ok (.aload_n 0, 1) := by decide +kernel
theorem dX7_undo_22 : decode cX7_undo 22 = .ok (.invokevirtual 45, 3) := by decide +kernel
theorem dX7_undo_25 : decode cX7_undo 25 = .ok (.ireturn, 1) := by decide +kernel
theorem dX7_count_0 : decode cX7_count 0 = .ok (.iload_n 1, 1) := by decide +kernel
theorem dX7_count_1 : decode cX7_count 1 = .ok (.tableswitch 60 0 3 #[31, 39, 47, 55], 31) := by decide +kernel
theorem dX7_count_32 : decode cX7_count 32 = .ok (.aload_n 0, 1) := by decide +kernel
theorem dX7_count_33 : decode cX7_count 33 = .ok (.getfield 11, 3) := by decide +kernel
theorem dX7_count_36 : decode cX7_count 36 = .ok (.bipush 17, 2) := by decide +kernel
theorem dX7_count_38 : decode cX7_count 38 = .ok (.iaload, 1) := by decide +kernel
theorem dX7_count_39 : decode cX7_count 39 = .ok (.ireturn, 1) := by decide +kernel
theorem dX7_count_40 : decode cX7_count 40 = .ok (.aload_n 0, 1) := by decide +kernel
theorem dX7_count_41 : decode cX7_count 41 = .ok (.getfield 11, 3) := by decide +kernel
theorem dX7_count_44 : decode cX7_count 44 = .ok (.bipush 30, 2) := by decide +kernel
theorem dX7_count_46 : decode cX7_count 46 = .ok (.iaload, 1) := by decide +kernel
theorem dX7_count_47 : decode cX7_count 47 = .ok (.ireturn, 1) := by decide +kernel
theorem dX7_count_48 : decode cX7_count 48 = .ok (.aload_n 0, 1) := by decide +kernel
theorem dX7_count_49 : decode cX7_count 49 = .ok (.getfield 11, 3) := by decide +kernel
theorem dX7_count_52 : decode cX7_count 52 = .ok (.bipush 47, 2) := by decide +kernel
theorem dX7_count_54 : decode cX7_count 54 = .ok (.iaload, 1) := by decide +kernel
theorem dX7_count_55 : decode cX7_count 55 = .ok (.ireturn, 1) := by decide +kernel
theorem dX7_count_56 : decode cX7_count 56 = .ok (.aload_n 0, 1) := by decide +kernel
theorem dX7_count_57 : decode cX7_count 57 = .ok (.getfield 99, 3) := by decide +kernel
theorem dX7_count_60 : decode cX7_count 60 = .ok (.ireturn, 1) := by decide +kernel
theorem dX7_count_61 : decode cX7_count 61 = .ok (.bipush (-2), 2) := by decide +kernel
theorem dX7_count_63 : decode cX7_count 63 = .ok (.ireturn, 1) := by decide +kernel
set_option maxRecDepth 20000 in
theorem ggX7_tape_X7_isTape : GoodIn wsX7_tape wsX7_isTape := goodIn_r _ [9, 10, 11, 12, 8, 13] (by decide +kernel) (by decide +kernel)
set_option maxRecDepth 20000 in
theorem gX7_tape_X7_isTape : GoodIn wsX7_tape (va_wsS RX7 206 yX7_isTape wsX7_isTape) := goodIn_app (goodIn_of _ (by decide +kernel)) ggX7_tape_X7_isTape
set_option maxRecDepth 20000 in
theorem ggX7_tape_X7_isIn : GoodIn wsX7_tape wsX7_isIn := goodIn_r _ [13] (by decide +kernel) (by decide +kernel)
set_option maxRecDepth 20000 in
theorem gX7_tape_X7_isIn : GoodIn wsX7_tape (va_wsS RX7 55 yX7_isIn wsX7_isIn) := goodIn_app (goodIn_of _ (by decide +kernel)) ggX7_tape_X7_isIn
theorem dX7_tape_0 : decode cX7_tape 0 = .ok (.iload_n 1, 1) := by decide +kernel
theorem dX7_tape_1 : decode cX7_tape 1 = .ok (.invokestatic 206, 3) := by decide +kernel
theorem dX7_tape_4 : decode cX7_tape 4 = .ok (.ifCond .ne 5, 3) := by decide +kernel
theorem dX7_tape_7 : decode cX7_tape 7 = .ok (.iconst (-1), 1) := by decide +kernel
theorem dX7_tape_8 : decode cX7_tape 8 = .ok (.ireturn, 1) := by decide +kernel
theorem dX7_tape_9 : decode cX7_tape 9 = .ok (.iload_n 2, 1) := by decide +kernel
theorem dX7_tape_10 : decode cX7_tape 10 = .ok (.i2l, 1) := by decide +kernel
theorem dX7_tape_11 : decode cX7_tape 11 = .ok (.ldc2_w 213, 3) := by decide +kernel
theorem dX7_tape_14 : decode cX7_tape 14 = .ok (.ldc2_w 81, 3) := by decide +kernel
theorem dX7_tape_17 : decode cX7_tape 17 = .ok (.invokestatic 55, 3) := by decide +kernel
theorem dX7_tape_20 : decode cX7_tape 20 = .ok (.ifCond .eq 14, 3) := by decide +kernel
theorem dX7_tape_23 : decode cX7_tape 23 = .ok (.iload_n 2, 1) := by decide +kernel
theorem dX7_tape_24 : decode cX7_tape 24 = .ok (.iconst (-1), 1) := by decide +kernel
theorem dX7_tape_25 : decode cX7_tape 25 = .ok (.if_icmp .eq 12, 3) := by decide +kernel
theorem dX7_tape_28 : decode cX7_tape 28 = .ok (.iload_n 3, 1) := by decide +kernel
theorem dX7_tape_29 : decode cX7_tape 29 = .ok (.bipush 60, 2) := by decide +kernel
theorem dX7_tape_31 : decode cX7_tape 31 = .ok (.if_icmp .le 6, 3) := by decide +kernel
theorem dX7_tape_34 : decode cX7_tape 34 = .ok (.bipush (-2), 2) := by decide +kernel
theorem dX7_tape_36 : decode cX7_tape 36 = .ok (.ireturn, 1) := by decide +kernel
theorem dX7_tape_37 : decode cX7_tape 37 = .ok (.iload_n 2, 1) := by decide +kernel
theorem dX7_tape_38 : decode cX7_tape 38 = .ok (.iconst (-1), 1) := by decide +kernel
theorem dX7_tape_39 : decode cX7_tape 39 = .ok (.if_icmp .eq 10, 3) := by decide +kernel
theorem dX7_tape_42 : decode cX7_tape 42 = .ok (.iload_n 3, 1) := by decide +kernel
theorem dX7_tape_43 : decode cX7_tape 43 = .ok (.ifCond .ge 6, 3) := by decide +kernel
theorem dX7_tape_46 : decode cX7_tape 46 = .ok (.bipush (-14), 2) := by decide +kernel
theorem dX7_tape_48 : decode cX7_tape 48 = .ok (.ireturn, 1) := by decide +kernel
theorem dX7_tape_49 : decode cX7_tape 49 = .ok (.aload_n 0, 1) := by decide +kernel
theorem dX7_tape_50 : decode cX7_tape 50 = .ok (.getfield 27, 3) := by decide +kernel
theorem dX7_tape_53 : decode cX7_tape 53 = .ok (.iload_n 1, 1) := by decide +kernel
theorem dX7_tape_54 : decode cX7_tape 54 = .ok (.iload_n 2, 1) := by decide +kernel
theorem dX7_tape_55 : decode cX7_tape 55 = .ok (.iastore, 1) := by decide +kernel
theorem dX7_tape_56 : decode cX7_tape 56 = .ok (.aload_n 0, 1) := by decide +kernel
theorem dX7_tape_57 : decode cX7_tape 57 = .ok (.getfield 30, 3) := by decide +kernel
theorem dX7_tape_60 : decode cX7_tape 60 = .ok (.iload_n 1, 1) := by decide +kernel
theorem dX7_tape_61 : decode cX7_tape 61 = .ok (.iload_n 2, 1) := by decide +kernel
theorem dX7_tape_62 : decode cX7_tape 62 = .ok (.iconst (-1), 1) := by decide +kernel
theorem dX7_tape_63 : decode cX7_tape 63 = .ok (.if_icmp .ne 7, 3) := by decide +kernel
theorem dX7_tape_66 : decode cX7_tape 66 = .ok (.iconst 0, 1) := by decide +kernel
theorem dX7_tape_67 : decode cX7_tape 67 = .ok (.goto 4, 3) := by decide +kernel
theorem dX7_tape_70 : decode cX7_tape 70 = .ok (.iload_n 3, 1) := by decide +kernel
theorem dX7_tape_71 : decode cX7_tape 71 = .ok (.iastore, 1) := by decide +kernel
theorem dX7_tape_72 : decode cX7_tape 72 = .ok (.iconst 0, 1) := by decide +kernel
theorem dX7_tape_73 : decode cX7_tape 73 = .ok (.istore 4, 2) := by decide +kernel
theorem dX7_tape_75 : decode cX7_tape 75 = .ok (.iload 4, 2) := by decide +kernel
theorem dX7_tape_77 : decode cX7_tape 77 = .ok (.bipush 60, 2) := by decide +kernel
theorem dX7_tape_79 : decode cX7_tape 79 = .ok (.if_icmp .ge 22, 3) := by decide +kernel
theorem dX7_tape_82 : decode cX7_tape 82 = .ok (.aload_n 0, 1) := by decide +kernel
theorem dX7_tape_83 : decode cX7_tape 83 = .ok (.getfield 33, 3) := by decide +kernel
theorem dX7_tape_86 : decode cX7_tape 86 = .ok (.bipush 60, 2) := by decide +kernel
theorem dX7_tape_88 : decode cX7_tape 88 = .ok (.iload_n 1, 1) := by decide +kernel
theorem dX7_tape_89 : decode cX7_tape 89 = .ok (.imul, 1) := by decide +kernel
theorem dX7_tape_90 : decode cX7_tape 90 = .ok (.iload 4, 2) := by decide +kernel
theorem dX7_tape_92 : decode cX7_tape 92 = .ok (.iadd, 1) := by decide +kernel
theorem dX7_tape_93 : decode cX7_tape 93 = .ok (.lconst 0, 1) := by decide +kernel
theorem dX7_tape_94 : decode cX7_tape 94 = .ok (.lastore, 1) := by decide +kernel
theorem dX7_tape_95 : decode cX7_tape 95 = .ok (.iinc 4 1, 3) := by decide +kernel
theorem dX7_tape_98 : decode cX7_tape 98 = .ok (.goto (-23), 3) := by decide +kernel
theorem dX7_tape_101 : decode cX7_tape 101 = .ok (.iconst 1, 1) := by decide +kernel
theorem dX7_tape_102 : decode cX7_tape 102 = .ok (.ireturn, 1) := by decide +kernel
theorem dX7_lies_0 : decode cX7_lies 0 = .ok (.iload_n 0, 1) := by decide +kernel
theorem dX7_lies_1 : decode cX7_lies 1 = .ok (.tableswitch 47 0 3 #[31, 36, 41, 45], 31) := by decide +kernel
theorem dX7_lies_32 : decode cX7_lies 32 = .ok (.lload_n 1, 1) := by decide +kernel
theorem dX7_lies_33 : decode cX7_lies 33 = .ok (.l2i, 1) := by decide +kernel
theorem dX7_lies_34 : decode cX7_lies 34 = .ok (.i2b, 1) := by decide +kernel
theorem dX7_lies_35 : decode cX7_lies 35 = .ok (.i2l, 1) := by decide +kernel
theorem dX7_lies_36 : decode cX7_lies 36 = .ok (.lreturn, 1) := by decide +kernel
theorem dX7_lies_37 : decode cX7_lies 37 = .ok (.lload_n 1, 1) := by decide +kernel
theorem dX7_lies_38 : decode cX7_lies 38 = .ok (.l2i, 1) := by decide +kernel
theorem dX7_lies_39 : decode cX7_lies 39 = .ok (.i2s, 1) := by decide +kernel
theorem dX7_lies_40 : decode cX7_lies 40 = .ok (.i2l, 1) := by decide +kernel
theorem dX7_lies_41 : decode cX7_lies 41 = .ok (.lreturn, 1) := by decide +kernel
theorem dX7_lies_42 : decode cX7_lies 42 = .ok (.lload_n 1, 1) := by decide +kernel
theorem dX7_lies_43 : decode cX7_lies 43 = .ok (.l2i, 1) := by decide +kernel
theorem dX7_lies_44 : decode cX7_lies 44 = .ok (.i2l, 1) := by decide +kernel
theorem dX7_lies_45 : decode cX7_lies 45 = .ok (.lreturn, 1) := by decide +kernel
theorem dX7_lies_46 : decode cX7_lies 46 = .ok (.lload_n 1, 1) := by decide +kernel
theorem dX7_lies_47 : decode cX7_lies 47 = .ok (.lreturn, 1) := by decide +kernel
theorem dX7_lies_48 : decode cX7_lies 48 = .ok (.lload_n 1, 1) := by decide +kernel
theorem dX7_lies_49 : decode cX7_lies 49 = .ok (.lconst 0, 1) := by decide +kernel
theorem dX7_lies_50 : decode cX7_lies 50 = .ok (.lcmp, 1) := by decide +kernel
theorem dX7_lies_51 : decode cX7_lies 51 = .ok (.ifCond .ne 7, 3) := by decide +kernel
theorem dX7_lies_54 : decode cX7_lies 54 = .ok (.lconst 0, 1) := by decide +kernel
theorem dX7_lies_55 : decode cX7_lies 55 = .ok (.goto 4, 3) := by decide +kernel
theorem dX7_lies_58 : decode cX7_lies 58 = .ok (.lconst 1, 1) := by decide +kernel
theorem dX7_lies_59 : decode cX7_lies 59 = .ok (.lreturn, 1) := by decide +kernel
set_option maxRecDepth 20000 in
theorem ggX7_item_X7_isTape : GoodIn wsX7_item wsX7_isTape := goodIn_r _ [6, 7, 8, 9, 5, 10] (by decide +kernel) (by decide +kernel)
set_option maxRecDepth 20000 in
theorem gX7_item_X7_isTape : GoodIn wsX7_item (va_wsS RX7 206 yX7_isTape wsX7_isTape) := goodIn_app (goodIn_of _ (by decide +kernel)) ggX7_item_X7_isTape
set_option maxRecDepth 20000 in
theorem ggX7_item_X7_isItem : GoodIn wsX7_item wsX7_isItem := goodIn_r _ [14, 15, 8, 9, 5, 10, 19, 20, 21, 22, 23, 24, 25, 26, 27, 28, 29, 30, 31, 32, 33] (by decide +kernel) (by decide +kernel)
set_option maxRecDepth 20000 in
theorem gX7_item_X7_isItem : GoodIn wsX7_item (wsV RX7 215 RX7 yX7_isItem wsX7_isItem) := goodIn_app (goodIn_of _ (by decide +kernel)) ggX7_item_X7_isItem
set_option maxRecDepth 20000 in
theorem ggX7_item_X7_lies : GoodIn wsX7_item wsX7_lies := goodIn_r _ [18] (by decide +kernel) (by decide +kernel)
set_option maxRecDepth 20000 in
theorem gX7_item_X7_lies : GoodIn wsX7_item (va_wsS RX7 218 yX7_lies wsX7_lies) := goodIn_app (goodIn_of _ (by decide +kernel)) ggX7_item_X7_lies
theorem dX7_item_0 : decode cX7_item 0 = .ok (.iload_n 1, 1) := by decide +kernel
theorem dX7_item_1 : decode cX7_item 1 = .ok (.invokestatic 206, 3) := by decide +kernel
theorem dX7_item_4 : decode cX7_item 4 = .ok (.ifCond .ne 5, 3) := by decide +kernel
theorem dX7_item_7 : decode cX7_item 7 = .ok (.iconst (-1), 1) := by decide +kernel
theorem dX7_item_8 : decode cX7_item 8 = .ok (.ireturn, 1) := by decide +kernel
theorem dX7_item_9 : decode cX7_item 9 = .ok (.aload_n 0, 1) := by decide +kernel
theorem dX7_item_10 : decode cX7_item 10 = .ok (.getfield 27, 3) := by decide +kernel
theorem dX7_item_13 : decode cX7_item 13 = .ok (.iload_n 1, 1) := by decide +kernel
theorem dX7_item_14 : decode cX7_item 14 = .ok (.iaload, 1) := by decide +kernel
theorem dX7_item_15 : decode cX7_item 15 = .ok (.iconst (-1), 1) := by decide +kernel
theorem dX7_item_16 : decode cX7_item 16 = .ok (.if_icmp .ne 6, 3) := by decide +kernel
theorem dX7_item_19 : decode cX7_item 19 = .ok (.bipush (-11), 2) := by decide +kernel
theorem dX7_item_21 : decode cX7_item 21 = .ok (.ireturn, 1) := by decide +kernel
theorem dX7_item_22 : decode cX7_item 22 = .ok (.aload_n 0, 1) := by decide +kernel
theorem dX7_item_23 : decode cX7_item 23 = .ok (.iload_n 1, 1) := by decide +kernel
theorem dX7_item_24 : decode cX7_item 24 = .ok (.iload_n 2, 1) := by decide +kernel
theorem dX7_item_25 : decode cX7_item 25 = .ok (.invokevirtual 215, 3) := by decide +kernel
theorem dX7_item_28 : decode cX7_item 28 = .ok (.ifCond .ne 6, 3) := by decide +kernel
theorem dX7_item_31 : decode cX7_item 31 = .ok (.bipush (-13), 2) := by decide +kernel
theorem dX7_item_33 : decode cX7_item 33 = .ok (.ireturn, 1) := by decide +kernel
theorem dX7_item_34 : decode cX7_item 34 = .ok (.aload_n 0, 1) := by decide +kernel
theorem dX7_item_35 : decode cX7_item 35 = .ok (.getfield 33, 3) := by decide +kernel
theorem dX7_item_38 : decode cX7_item 38 = .ok (.bipush 60, 2) := by decide +kernel
theorem dX7_item_40 : decode cX7_item 40 = .ok (.iload_n 1, 1) := by decide +kernel
theorem dX7_item_41 : decode cX7_item 41 = .ok (.imul, 1) := by decide +kernel
theorem dX7_item_42 : decode cX7_item 42 = .ok (.iload_n 2, 1) := by decide +kernel
theorem dX7_item_43 : decode cX7_item 43 = .ok (.iadd, 1) := by decide +kernel
theorem dX7_item_44 : decode cX7_item 44 = .ok (.aload_n 0, 1) := by decide +kernel
theorem dX7_item_45 : decode cX7_item 45 = .ok (.getfield 27, 3) := by decide +kernel
theorem dX7_item_48 : decode cX7_item 48 = .ok (.iload_n 1, 1) := by decide +kernel
theorem dX7_item_49 : decode cX7_item 49 = .ok (.iaload, 1) := by decide +kernel
theorem dX7_item_50 : decode cX7_item 50 = .ok (.lload_n 3, 1) := by decide +kernel
theorem dX7_item_51 : decode cX7_item 51 = .ok (.invokestatic 218, 3) := by decide +kernel
theorem dX7_item_54 : decode cX7_item 54 = .ok (.lastore, 1) := by decide +kernel
theorem dX7_item_55 : decode cX7_item 55 = .ok (.iconst 1, 1) := by decide +kernel
theorem dX7_item_56 : decode cX7_item 56 = .ok (.ireturn, 1) := by decide +kernel
set_option maxRecDepth 20000 in
theorem ggX7_peek_X7_isTape : GoodIn wsX7_peek wsX7_isTape := goodIn_r _ [6, 7, 8, 9, 5, 10] (by decide +kernel) (by decide +kernel)
set_option maxRecDepth 20000 in
theorem gX7_peek_X7_isTape : GoodIn wsX7_peek (va_wsS RX7 206 yX7_isTape wsX7_isTape) := goodIn_app (goodIn_of _ (by decide +kernel)) ggX7_peek_X7_isTape
set_option maxRecDepth 20000 in
theorem ggX7_peek_X7_isItem : GoodIn wsX7_peek wsX7_isItem := goodIn_r _ [14, 15, 8, 9, 5, 10, 16, 17, 18, 19, 20, 21, 22, 23, 24, 25, 26, 27, 28, 29, 30] (by decide +kernel) (by decide +kernel)
set_option maxRecDepth 20000 in
theorem gX7_peek_X7_isItem : GoodIn wsX7_peek (wsV RX7 215 RX7 yX7_isItem wsX7_isItem) := goodIn_app (goodIn_of _ (by decide +kernel)) ggX7_peek_X7_isItem
theorem dX7_peek_0 : decode cX7_peek 0 = .ok (.iload_n 1, 1) := by decide +kernel
theorem dX7_peek_1 : decode cX7_peek 1 = .ok (.invokestatic 206, 3) := by decide +kernel
theorem dX7_peek_4 : decode cX7_peek 4 = .ok (.ifCond .eq 26, 3) := by decide +kernel
theorem dX7_peek_7 : decode cX7_peek 7 = .ok (.aload_n 0, 1) := by decide +kernel
theorem dX7_peek_8 : decode cX7_peek 8 = .ok (.iload_n 1, 1) := by decide +kernel
theorem dX7_peek_9 : decode cX7_peek 9 = .ok (.iload_n 2, 1) := by decide +kernel
theorem dX7_peek_10 : decode cX7_peek 10 = .ok (.invokevirtual 215, 3) := by decide +kernel
theorem dX7_peek_13 : decode cX7_peek 13 = .ok (.ifCond .eq 17, 3) := by decide +kernel
theorem dX7_peek_16 : decode cX7_peek 16 = .ok (.aload_n 0, 1) := by decide +kernel
theorem dX7_peek_17 : decode cX7_peek 17 = .ok (.getfield 33, 3) := by decide +kernel
theorem dX7_peek_20 : decode cX7_peek 20 = .ok (.bipush 60, 2) := by decide +kernel
theorem dX7_peek_22 : decode cX7_peek 22 = .ok (.iload_n 1, 1) := by decide +kernel
theorem dX7_peek_23 : decode cX7_peek 23 = .ok (.imul, 1) := by decide +kernel
theorem dX7_peek_24 : decode cX7_peek 24 = .ok (.iload_n 2, 1) := by decide +kernel
theorem dX7_peek_25 : decode cX7_peek 25 = .ok (.iadd, 1) := by decide +kernel
theorem dX7_peek_26 : decode cX7_peek 26 = .ok (.laload, 1) := by decide +kernel
theorem dX7_peek_27 : decode cX7_peek 27 = .ok (.goto 6, 3) := by decide +kernel
theorem dX7_peek_30 : decode cX7_peek 30 = .ok (.ldc2_w 185, 3) := by decide +kernel
theorem dX7_peek_33 : decode cX7_peek 33 = .ok (.lreturn, 1) := by decide +kernel
set_option maxRecDepth 20000 in
theorem ggX7_shift_X7_isTape : GoodIn wsX7_shift wsX7_isTape := goodIn_r _ [7, 8, 9, 10, 6, 11] (by decide +kernel) (by decide +kernel)
set_option maxRecDepth 20000 in
theorem gX7_shift_X7_isTape : GoodIn wsX7_shift (va_wsS RX7 206 yX7_isTape wsX7_isTape) := goodIn_app (goodIn_of _ (by decide +kernel)) ggX7_shift_X7_isTape
theorem dX7_shift_0 : decode cX7_shift 0 = .ok (.iload_n 1, 1) := by decide +kernel
theorem dX7_shift_1 : decode cX7_shift 1 = .ok (.invokestatic 206, 3) := by decide +kernel
theorem dX7_shift_4 : decode cX7_shift 4 = .ok (.ifCond .eq 10, 3) := by decide +kernel
theorem dX7_shift_7 : decode cX7_shift 7 = .ok (.iload_n 3, 1) := by decide +kernel
theorem dX7_shift_8 : decode cX7_shift 8 = .ok (.invokestatic 206, 3) := by decide +kernel
theorem dX7_shift_11 : decode cX7_shift 11 = .ok (.ifCond .ne 5, 3) := by decide +kernel
theorem dX7_shift_14 : decode cX7_shift 14 = .ok (.iconst (-1), 1) := by decide +kernel
theorem dX7_shift_15 : decode cX7_shift 15 = .ok (.ireturn, 1) := by decide +kernel
theorem dX7_shift_16 : decode cX7_shift 16 = .ok (.aload_n 0, 1) := by decide +kernel
theorem dX7_shift_17 : decode cX7_shift 17 = .ok (.getfield 27, 3) := by decide +kernel
theorem dX7_shift_20 : decode cX7_shift 20 = .ok (.iload_n 1, 1) := by decide +kernel
theorem dX7_shift_21 : decode cX7_shift 21 = .ok (.iaload, 1) := by decide +kernel
theorem dX7_shift_22 : decode cX7_shift 22 = .ok (.iconst (-1), 1) := by decide +kernel
theorem dX7_shift_23 : decode cX7_shift 23 = .ok (.if_icmp .eq 13, 3) := by decide +kernel
theorem dX7_shift_26 : decode cX7_shift 26 = .ok (.aload_n 0, 1) := by decide +kernel
theorem dX7_shift_27 : decode cX7_shift 27 = .ok (.getfield 27, 3) := by decide +kernel
theorem dX7_shift_30 : decode cX7_shift 30 = .ok (.iload_n 3, 1) := by decide +kernel
theorem dX7_shift_31 : decode cX7_shift 31 = .ok (.iaload, 1) := by decide +kernel
theorem dX7_shift_32 : decode cX7_shift 32 = .ok (.iconst (-1), 1) := by decide +kernel
theorem dX7_shift_33 : decode cX7_shift 33 = .ok (.if_icmp .ne 6, 3) := by decide +kernel
theorem dX7_shift_36 : decode cX7_shift 36 = .ok (.bipush (-11), 2) := by decide +kernel
theorem dX7_shift_38 : decode cX7_shift 38 = .ok (.ireturn, 1) := by decide +kernel
theorem dX7_shift_39 : decode cX7_shift 39 = .ok (.aload_n 0, 1) := by decide +kernel
theorem dX7_shift_40 : decode cX7_shift 40 = .ok (.getfield 27, 3) := by decide +kernel
theorem dX7_shift_43 : decode cX7_shift 43 = .ok (.iload_n 1, 1) := by decide +kernel
theorem dX7_shift_44 : decode cX7_shift 44 = .ok (.iaload, 1) := by decide +kernel
theorem dX7_shift_45 : decode cX7_shift 45 = .ok (.aload_n 0, 1) := by decide +kernel
theorem dX7_shift_46 : decode cX7_shift 46 = .ok (.getfield 27, 3) := by decide +kernel
theorem dX7_shift_49 : decode cX7_shift 49 = .ok (.iload_n 3, 1) := by decide +kernel
theorem dX7_shift_50 : decode cX7_shift 50 = .ok (.iaload, 1) := by decide +kernel
theorem dX7_shift_51 : decode cX7_shift 51 = .ok (.if_icmp .eq 6, 3) := by decide +kernel
theorem dX7_shift_54 : decode cX7_shift 54 = .ok (.bipush (-12), 2) := by decide +kernel
theorem dX7_shift_56 : decode cX7_shift 56 = .ok (.ireturn, 1) := by decide +kernel
theorem dX7_shift_57 : decode cX7_shift 57 = .ok (.iload 5, 2) := by decide +kernel
theorem dX7_shift_59 : decode cX7_shift 59 = .ok (.ifCond .lt 39, 3) := by decide +kernel
theorem dX7_shift_62 : decode cX7_shift 62 = .ok (.iload_n 2, 1) := by decide +kernel
theorem dX7_shift_63 : decode cX7_shift 63 = .ok (.ifCond .lt 35, 3) := by decide +kernel
theorem dX7_shift_66 : decode cX7_shift 66 = .ok (.iload 4, 2) := by decide +kernel
theorem dX7_shift_68 : decode cX7_shift 68 = .ok (.ifCond .lt 30, 3) := by decide +kernel
theorem dX7_shift_71 : decode cX7_shift 71 = .ok (.iload 5, 2) := by decide +kernel
theorem dX7_shift_73 : decode cX7_shift 73 = .ok (.aload_n 0, 1) := by decide +kernel
theorem dX7_shift_74 : decode cX7_shift 74 = .ok (.getfield 30, 3) := by decide +kernel
theorem dX7_shift_77 : decode cX7_shift 77 = .ok (.iload_n 1, 1) := by decide +kernel
theorem dX7_shift_78 : decode cX7_shift 78 = .ok (.iaload, 1) := by decide +kernel
theorem dX7_shift_79 : decode cX7_shift 79 = .ok (.iload_n 2, 1) := by decide +kernel
theorem dX7_shift_80 : decode cX7_shift 80 = .ok (.isub, 1) := by decide +kernel
theorem dX7_shift_81 : decode cX7_shift 81 = .ok (.if_icmp .gt 17, 3) := by decide +kernel
theorem dX7_shift_84 : decode cX7_shift 84 = .ok (.iload 5, 2) := by decide +kernel
theorem dX7_shift_86 : decode cX7_shift 86 = .ok (.aload_n 0, 1) := by decide +kernel
theorem dX7_shift_87 : decode cX7_shift 87 = .ok (.getfield 30, 3) := by decide +kernel
theorem dX7_shift_90 : decode cX7_shift 90 = .ok (.iload_n 3, 1) := by decide +kernel
theorem dX7_shift_91 : decode cX7_shift 91 = .ok (.iaload, 1) := by decide +kernel
theorem dX7_shift_92 : decode cX7_shift 92 = .ok (.iload 4, 2) := by decide +kernel
theorem dX7_shift_94 : decode cX7_shift 94 = .ok (.isub, 1) := by decide +kernel
theorem dX7_shift_95 : decode cX7_shift 95 = .ok (.if_icmp .le 6, 3) := by decide +kernel
theorem dX7_shift_98 : decode cX7_shift 98 = .ok (.bipush (-13), 2) := by decide +kernel
theorem dX7_shift_100 : decode cX7_shift 100 = .ok (.ireturn, 1) := by decide +kernel
theorem dX7_shift_101 : decode cX7_shift 101 = .ok (.iconst 0, 1) := by decide +kernel
theorem dX7_shift_102 : decode cX7_shift 102 = .ok (.istore 6, 2) := by decide +kernel
theorem dX7_shift_104 : decode cX7_shift 104 = .ok (.iload 6, 2) := by decide +kernel
theorem dX7_shift_106 : decode cX7_shift 106 = .ok (.iload 5, 2) := by decide +kernel
theorem dX7_shift_108 : decode cX7_shift 108 = .ok (.if_icmp .ge 58, 3) := by decide +kernel
theorem dX7_shift_111 : decode cX7_shift 111 = .ok (.iload_n 2, 1) := by decide +kernel
theorem dX7_shift_112 : decode cX7_shift 112 = .ok (.iload 4, 2) := by decide +kernel
theorem dX7_shift_114 : decode cX7_shift 114 = .ok (.if_icmp .le 8, 3) := by decide +kernel
theorem dX7_shift_117 : decode cX7_shift 117 = .ok (.iload 6, 2) := by decide +kernel
theorem dX7_shift_119 : decode cX7_shift 119 = .ok (.goto 10, 3) := by decide +kernel
theorem dX7_shift_122 : decode cX7_shift 122 = .ok (.iload 5, 2) := by decide +kernel
theorem dX7_shift_124 : decode cX7_shift 124 = .ok (.iconst 1, 1) := by decide +kernel
theorem dX7_shift_125 : decode cX7_shift 125 = .ok (.isub, 1) := by decide +kernel
theorem dX7_shift_126 : decode cX7_shift 126 = .ok (.iload 6, 2) := by decide +kernel
theorem dX7_shift_128 : decode cX7_shift 128 = .ok (.isub, 1) := by decide +kernel
theorem dX7_shift_129 : decode cX7_shift 129 = .ok (.istore 7, 2) := by decide +kernel
theorem dX7_shift_131 : decode cX7_shift 131 = .ok (.aload_n 0, 1) := by decide +kernel
theorem dX7_shift_132 : decode cX7_shift 132 = .ok (.getfield 33, 3) := by decide +kernel
theorem dX7_shift_135 : decode cX7_shift 135 = .ok (.bipush 60, 2) := by decide +kernel
theorem dX7_shift_137 : decode cX7_shift 137 = .ok (.iload_n 3, 1) := by decide +kernel
theorem dX7_shift_138 : decode cX7_shift 138 = .ok (.imul, 1) := by decide +kernel
theorem dX7_shift_139 : decode cX7_shift 139 = .ok (.iload 4, 2) := by decide +kernel
theorem dX7_shift_141 : decode cX7_shift 141 = .ok (.iadd, 1) := by decide +kernel
theorem dX7_shift_142 : decode cX7_shift 142 = .ok (.iload 7, 2) := by decide +kernel
theorem dX7_shift_144 : decode cX7_shift 144 = .ok (.iadd, 1) := by decide +kernel
theorem dX7_shift_145 : decode cX7_shift 145 = .ok (.aload_n 0, 1) := by decide +kernel
theorem dX7_shift_146 : decode cX7_shift 146 = .ok (.getfield 33, 3) := by decide +kernel
theorem dX7_shift_149 : decode cX7_shift 149 = .ok (.bipush 60, 2) := by decide +kernel
theorem dX7_shift_151 : decode cX7_shift 151 = .ok (.iload_n 1, 1) := by decide +kernel
theorem dX7_shift_152 : decode cX7_shift 152 = .ok (.imul, 1) := by decide +kernel
theorem dX7_shift_153 : decode cX7_shift 153 = .ok (.iload_n 2, 1) := by decide +kernel
theorem dX7_shift_154 : decode cX7_shift 154 = .ok (.iadd, 1) := by decide +kernel
theorem dX7_shift_155 : decode cX7_shift 155 = .ok (.iload 7, 2) := by decide +kernel
theorem dX7_shift_157 : decode cX7_shift 157 = .ok (.iadd, 1) := by decide +kernel
theorem dX7_shift_158 : decode cX7_shift 158 = .ok (.laload, 1) := by decide +kernel
theorem dX7_shift_159 : decode cX7_shift 159 = .ok (.lastore, 1) := by decide +kernel
theorem dX7_shift_160 : decode cX7_shift 160 = .ok (.iinc 6 1, 3) := by decide +kernel
theorem dX7_shift_163 : decode cX7_shift 163 = .ok (.goto (-59), 3) := by decide +kernel
theorem dX7_shift_166 : decode cX7_shift 166 = .ok (.iload 5, 2) := by decide +kernel
theorem dX7_shift_168 : decode cX7_shift 168 = .ok (.ireturn, 1) := by decide +kernel
theorem dJ6_bitCount_0f7a4_0 : decode cJ6_bitCount_0f7a4 0 = .ok (.iload_n 0, 1) := by decide +kernel
theorem dJ6_bitCount_0f7a4_1 : decode cJ6_bitCount_0f7a4 1 = .ok (.iload_n 0, 1) := by decide +kernel
theorem dJ6_bitCount_0f7a4_2 : decode cJ6_bitCount_0f7a4 2 = .ok (.iconst 1, 1) := by decide +kernel
theorem dJ6_bitCount_0f7a4_3 : decode cJ6_bitCount_0f7a4 3 = .ok (.iushr, 1) := by decide +kernel
theorem dJ6_bitCount_0f7a4_4 : decode cJ6_bitCount_0f7a4 4 = .ok (.ldc_w 265, 3) := by decide +kernel
theorem dJ6_bitCount_0f7a4_7 : decode cJ6_bitCount_0f7a4 7 = .ok (.iand, 1) := by decide +kernel
theorem dJ6_bitCount_0f7a4_8 : decode cJ6_bitCount_0f7a4 8 = .ok (.isub, 1) := by decide +kernel
theorem dJ6_bitCount_0f7a4_9 : decode cJ6_bitCount_0f7a4 9 = .ok (.istore_n 0, 1) := by decide +kernel
theorem dJ6_bitCount_0f7a4_10 : decode cJ6_bitCount_0f7a4 10 = .ok (.iload_n 0, 1) := by decide +kernel
theorem dJ6_bitCount_0f7a4_11 : decode cJ6_bitCount_0f7a4 11 = .ok (.ldc_w 266, 3) := by decide +kernel
theorem dJ6_bitCount_0f7a4_14 : decode cJ6_bitCount_0f7a4 14 = .ok (.iand, 1) := by decide +kernel
theorem dJ6_bitCount_0f7a4_15 : decode cJ6_bitCount_0f7a4 15 = .ok (.iload_n 0, 1) := by decide +kernel
theorem dJ6_bitCount_0f7a4_16 : decode cJ6_bitCount_0f7a4 16 = .ok (.iconst 2, 1) := by decide +kernel
theorem dJ6_bitCount_0f7a4_17 : decode cJ6_bitCount_0f7a4 17 = .ok (.iushr, 1) := by decide +kernel
theorem dJ6_bitCount_0f7a4_18 : decode cJ6_bitCount_0f7a4 18 = .ok (.ldc_w 266, 3) := by decide +kernel
theorem dJ6_bitCount_0f7a4_21 : decode cJ6_bitCount_0f7a4 21 = .ok (.iand, 1) := by decide +kernel
theorem dJ6_bitCount_0f7a4_22 : decode cJ6_bitCount_0f7a4 22 = .ok (.iadd, 1) := by decide +kernel
theorem dJ6_bitCount_0f7a4_23 : decode cJ6_bitCount_0f7a4 23 = .ok (.istore_n 0, 1) := by decide +kernel
theorem dJ6_bitCount_0f7a4_24 : decode cJ6_bitCount_0f7a4 24 = .ok (.iload_n 0, 1) := by decide +kernel
theorem dJ6_bitCount_0f7a4_25 : decode cJ6_bitCount_0f7a4 25 = .ok (.iload_n 0, 1) := by decide +kernel
theorem dJ6_bitCount_0f7a4_26 : decode cJ6_bitCount_0f7a4 26 = .ok (.iconst 4, 1) := by decide +kernel
theorem dJ6_bitCount_0f7a4_27 : decode cJ6_bitCount_0f7a4 27 = .ok (.iushr, 1) := by decide +kernel
theorem dJ6_bitCount_0f7a4_28 : decode cJ6_bitCount_0f7a4 28 = .ok (.iadd, 1) := by decide +kernel
theorem dJ6_bitCount_0f7a4_29 : decode cJ6_bitCount_0f7a4 29 = .ok (.ldc_w 267, 3) := by decide +kernel
theorem dJ6_bitCount_0f7a4_32 : decode cJ6_bitCount_0f7a4 32 = .ok (.iand, 1) := by decide +kernel
theorem dJ6_bitCount_0f7a4_33 : decode cJ6_bitCount_0f7a4 33 = .ok (.istore_n 0, 1) := by decide +kernel
theorem dJ6_bitCount_0f7a4_34 : decode cJ6_bitCount_0f7a4 34 = .ok (.iload_n 0, 1) := by decide +kernel
theorem dJ6_bitCount_0f7a4_35 : decode cJ6_bitCount_0f7a4 35 = .ok (.iload_n 0, 1) := by decide +kernel
theorem dJ6_bitCount_0f7a4_36 : decode cJ6_bitCount_0f7a4 36 = .ok (.bipush 8, 2) := by decide +kernel
theorem dJ6_bitCount_0f7a4_38 : decode cJ6_bitCount_0f7a4 38 = .ok (.iushr, 1) := by decide +kernel
theorem dJ6_bitCount_0f7a4_39 : decode cJ6_bitCount_0f7a4 39 = .ok (.iadd, 1) := by decide +kernel
theorem dJ6_bitCount_0f7a4_40 : decode cJ6_bitCount_0f7a4 40 = .ok (.istore_n 0, 1) := by decide +kernel
theorem dJ6_bitCount_0f7a4_41 : decode cJ6_bitCount_0f7a4 41 = .ok (.iload_n 0, 1) := by decide +kernel
theorem dJ6_bitCount_0f7a4_42 : decode cJ6_bitCount_0f7a4 42 = .ok (.iload_n 0, 1) := by decide +kernel
theorem dJ6_bitCount_0f7a4_43 : decode cJ6_bitCount_0f7a4 43 = .ok (.bipush 16, 2) := by decide +kernel
theorem dJ6_bitCount_0f7a4_45 : decode cJ6_bitCount_0f7a4 45 = .ok (.iushr, 1) := by decide +kernel
theorem dJ6_bitCount_0f7a4_46 : decode cJ6_bitCount_0f7a4 46 = .ok (.iadd, 1) := by decide +kernel
theorem dJ6_bitCount_0f7a4_47 : decode cJ6_bitCount_0f7a4 47 = .ok (.istore_n 0, 1) := by decide +kernel
theorem dJ6_bitCount_0f7a4_48 : decode cJ6_bitCount_0f7a4 48 = .ok (.iload_n 0, 1) := by decide +kernel
theorem dJ6_bitCount_0f7a4_49 : decode cJ6_bitCount_0f7a4 49 = .ok (.bipush 63, 2) := by decide +kernel
theorem dJ6_bitCount_0f7a4_51 : decode cJ6_bitCount_0f7a4 51 = .ok (.iand, 1) := by decide +kernel
theorem dJ6_bitCount_0f7a4_52 : decode cJ6_bitCount_0f7a4 52 = .ok (.ireturn, 1) := by decide +kernel
theorem dJ9_max_7cf53_0 : decode cJ9_max_7cf53 0 = .ok (.iload_n 0, 1) := by decide +kernel
theorem dJ9_max_7cf53_1 : decode cJ9_max_7cf53 1 = .ok (.iload_n 1, 1) := by decide +kernel
theorem dJ9_max_7cf53_2 : decode cJ9_max_7cf53 2 = .ok (.if_icmp .lt 7, 3) := by decide +kernel
theorem dJ9_max_7cf53_5 : decode cJ9_max_7cf53 5 = .ok (.iload_n 0, 1) := by decide +kernel
theorem dJ9_max_7cf53_6 : decode cJ9_max_7cf53 6 = .ok (.goto 4, 3) := by decide +kernel
theorem dJ9_max_7cf53_9 : decode cJ9_max_7cf53 9 = .ok (.iload_n 1, 1) := by decide +kernel
theorem dJ9_max_7cf53_10 : decode cJ9_max_7cf53 10 = .ok (.ireturn, 1) := by decide +kernel
theorem dJ9_min_7cf53_0 : decode cJ9_min_7cf53 0 = .ok (.iload_n 0, 1) := by decide +kernel
theorem dJ9_min_7cf53_1 : decode cJ9_min_7cf53 1 = .ok (.iload_n 1, 1) := by decide +kernel
theorem dJ9_min_7cf53_2 : decode cJ9_min_7cf53 2 = .ok (.if_icmp .gt 7, 3) := by decide +kernel
theorem dJ9_min_7cf53_5 : decode cJ9_min_7cf53 5 = .ok (.iload_n 0, 1) := by decide +kernel
theorem dJ9_min_7cf53_6 : decode cJ9_min_7cf53 6 = .ok (.goto 4, 3) := by decide +kernel
theorem dJ9_min_7cf53_9 : decode cJ9_min_7cf53 9 = .ok (.iload_n 1, 1) := by decide +kernel
theorem dJ9_min_7cf53_10 : decode cJ9_min_7cf53 10 = .ok (.ireturn, 1) := by decide +kernel
