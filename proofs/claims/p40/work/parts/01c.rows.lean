theorem dX0_powerOf_0 : decode cX0_powerOf 0 = .ok (.iconst 1, 1) := by decide +kernel
theorem dX0_powerOf_1 : decode cX0_powerOf 1 = .ok (.istore_n 2, 1) := by decide +kernel
theorem dX0_powerOf_2 : decode cX0_powerOf 2 = .ok (.iconst 0, 1) := by decide +kernel
theorem dX0_powerOf_3 : decode cX0_powerOf 3 = .ok (.istore_n 3, 1) := by decide +kernel
theorem dX0_powerOf_4 : decode cX0_powerOf 4 = .ok (.iload_n 3, 1) := by decide +kernel
theorem dX0_powerOf_5 : decode cX0_powerOf 5 = .ok (.iload_n 1, 1) := by decide +kernel
theorem dX0_powerOf_6 : decode cX0_powerOf 6 = .ok (.if_icmp .ge 13, 3) := by decide +kernel
theorem dX0_powerOf_9 : decode cX0_powerOf 9 = .ok (.iload_n 2, 1) := by decide +kernel
theorem dX0_powerOf_10 : decode cX0_powerOf 10 = .ok (.iload_n 0, 1) := by decide +kernel
theorem dX0_powerOf_11 : decode cX0_powerOf 11 = .ok (.imul, 1) := by decide +kernel
theorem dX0_powerOf_12 : decode cX0_powerOf 12 = .ok (.istore_n 2, 1) := by decide +kernel
theorem dX0_powerOf_13 : decode cX0_powerOf 13 = .ok (.iinc 3 1, 3) := by decide +kernel
theorem dX0_powerOf_16 : decode cX0_powerOf 16 = .ok (.goto (-12), 3) := by decide +kernel
theorem dX0_powerOf_19 : decode cX0_powerOf 19 = .ok (.iload_n 2, 1) := by decide +kernel
theorem dX0_powerOf_20 : decode cX0_powerOf 20 = .ok (.ireturn, 1) := by decide +kernel
theorem dX0_carries_0 : decode cX0_carries 0 = .ok (.iload_n 0, 1) := by decide +kernel
theorem dX0_carries_1 : decode cX0_carries 1 = .ok (.iconst 2, 1) := by decide +kernel
theorem dX0_carries_2 : decode cX0_carries 2 = .ok (.if_icmp .ge 5, 3) := by decide +kernel
theorem dX0_carries_5 : decode cX0_carries 5 = .ok (.iconst 0, 1) := by decide +kernel
theorem dX0_carries_6 : decode cX0_carries 6 = .ok (.ireturn, 1) := by decide +kernel
theorem dX0_carries_7 : decode cX0_carries 7 = .ok (.iload_n 2, 1) := by decide +kernel
theorem dX0_carries_8 : decode cX0_carries 8 = .ok (.istore_n 3, 1) := by decide +kernel
theorem dX0_carries_9 : decode cX0_carries 9 = .ok (.iload_n 1, 1) := by decide +kernel
theorem dX0_carries_10 : decode cX0_carries 10 = .ok (.iload_n 2, 1) := by decide +kernel
theorem dX0_carries_11 : decode cX0_carries 11 = .ok (.isub, 1) := by decide +kernel
theorem dX0_carries_12 : decode cX0_carries 12 = .ok (.istore 4, 2) := by decide +kernel
theorem dX0_carries_14 : decode cX0_carries 14 = .ok (.iconst 0, 1) := by decide +kernel
theorem dX0_carries_15 : decode cX0_carries 15 = .ok (.istore 5, 2) := by decide +kernel
theorem dX0_carries_17 : decode cX0_carries 17 = .ok (.iconst 0, 1) := by decide +kernel
theorem dX0_carries_18 : decode cX0_carries 18 = .ok (.istore 6, 2) := by decide +kernel
theorem dX0_carries_20 : decode cX0_carries 20 = .ok (.iconst 0, 1) := by decide +kernel
theorem dX0_carries_21 : decode cX0_carries 21 = .ok (.istore 7, 2) := by decide +kernel
theorem dX0_carries_23 : decode cX0_carries 23 = .ok (.iload 7, 2) := by decide +kernel
theorem dX0_carries_25 : decode cX0_carries 25 = .ok (.bipush 14, 2) := by decide +kernel
theorem dX0_carries_27 : decode cX0_carries 27 = .ok (.if_icmp .ge 57, 3) := by decide +kernel
theorem dX0_carries_30 : decode cX0_carries 30 = .ok (.iload_n 3, 1) := by decide +kernel
theorem dX0_carries_31 : decode cX0_carries 31 = .ok (.ifCond .gt 8, 3) := by decide +kernel
theorem dX0_carries_34 : decode cX0_carries 34 = .ok (.iload 4, 2) := by decide +kernel
theorem dX0_carries_36 : decode cX0_carries 36 = .ok (.ifCond .le 48, 3) := by decide +kernel
theorem dX0_carries_39 : decode cX0_carries 39 = .ok (.iload_n 3, 1) := by decide +kernel
theorem dX0_carries_40 : decode cX0_carries 40 = .ok (.iload_n 0, 1) := by decide +kernel
theorem dX0_carries_41 : decode cX0_carries 41 = .ok (.irem, 1) := by decide +kernel
theorem dX0_carries_42 : decode cX0_carries 42 = .ok (.iload 4, 2) := by decide +kernel
theorem dX0_carries_44 : decode cX0_carries 44 = .ok (.iload_n 0, 1) := by decide +kernel
theorem dX0_carries_45 : decode cX0_carries 45 = .ok (.irem, 1) := by decide +kernel
theorem dX0_carries_46 : decode cX0_carries 46 = .ok (.iadd, 1) := by decide +kernel
theorem dX0_carries_47 : decode cX0_carries 47 = .ok (.iload 5, 2) := by decide +kernel
theorem dX0_carries_49 : decode cX0_carries 49 = .ok (.iadd, 1) := by decide +kernel
theorem dX0_carries_50 : decode cX0_carries 50 = .ok (.iload_n 0, 1) := by decide +kernel
theorem dX0_carries_51 : decode cX0_carries 51 = .ok (.if_icmp .lt 7, 3) := by decide +kernel
theorem dX0_carries_54 : decode cX0_carries 54 = .ok (.iconst 1, 1) := by decide +kernel
theorem dX0_carries_55 : decode cX0_carries 55 = .ok (.goto 4, 3) := by decide +kernel
theorem dX0_carries_58 : decode cX0_carries 58 = .ok (.iconst 0, 1) := by decide +kernel
theorem dX0_carries_59 : decode cX0_carries 59 = .ok (.istore 5, 2) := by decide +kernel
theorem dX0_carries_61 : decode cX0_carries 61 = .ok (.iload 6, 2) := by decide +kernel
theorem dX0_carries_63 : decode cX0_carries 63 = .ok (.iload 5, 2) := by decide +kernel
theorem dX0_carries_65 : decode cX0_carries 65 = .ok (.iadd, 1) := by decide +kernel
theorem dX0_carries_66 : decode cX0_carries 66 = .ok (.istore 6, 2) := by decide +kernel
theorem dX0_carries_68 : decode cX0_carries 68 = .ok (.iload_n 3, 1) := by decide +kernel
theorem dX0_carries_69 : decode cX0_carries 69 = .ok (.iload_n 0, 1) := by decide +kernel
theorem dX0_carries_70 : decode cX0_carries 70 = .ok (.idiv, 1) := by decide +kernel
theorem dX0_carries_71 : decode cX0_carries 71 = .ok (.istore_n 3, 1) := by decide +kernel
theorem dX0_carries_72 : decode cX0_carries 72 = .ok (.iload 4, 2) := by decide +kernel
theorem dX0_carries_74 : decode cX0_carries 74 = .ok (.iload_n 0, 1) := by decide +kernel
theorem dX0_carries_75 : decode cX0_carries 75 = .ok (.idiv, 1) := by decide +kernel
theorem dX0_carries_76 : decode cX0_carries 76 = .ok (.istore 4, 2) := by decide +kernel
theorem dX0_carries_78 : decode cX0_carries 78 = .ok (.iinc 7 1, 3) := by decide +kernel
theorem dX0_carries_81 : decode cX0_carries 81 = .ok (.goto (-58), 3) := by decide +kernel
theorem dX0_carries_84 : decode cX0_carries 84 = .ok (.iload 6, 2) := by decide +kernel
theorem dX0_carries_86 : decode cX0_carries 86 = .ok (.ireturn, 1) := by decide +kernel
theorem dX0_legendre_0 : decode cX0_legendre 0 = .ok (.iload_n 0, 1) := by decide +kernel
theorem dX0_legendre_1 : decode cX0_legendre 1 = .ok (.iconst 2, 1) := by decide +kernel
theorem dX0_legendre_2 : decode cX0_legendre 2 = .ok (.if_icmp .ge 5, 3) := by decide +kernel
theorem dX0_legendre_5 : decode cX0_legendre 5 = .ok (.iconst 0, 1) := by decide +kernel
theorem dX0_legendre_6 : decode cX0_legendre 6 = .ok (.ireturn, 1) := by decide +kernel
theorem dX0_legendre_7 : decode cX0_legendre 7 = .ok (.iconst 0, 1) := by decide +kernel
theorem dX0_legendre_8 : decode cX0_legendre 8 = .ok (.istore_n 3, 1) := by decide +kernel
theorem dX0_legendre_9 : decode cX0_legendre 9 = .ok (.iload_n 1, 1) := by decide +kernel
theorem dX0_legendre_10 : decode cX0_legendre 10 = .ok (.iload_n 0, 1) := by decide +kernel
theorem dX0_legendre_11 : decode cX0_legendre 11 = .ok (.idiv, 1) := by decide +kernel
theorem dX0_legendre_12 : decode cX0_legendre 12 = .ok (.istore 4, 2) := by decide +kernel
theorem dX0_legendre_14 : decode cX0_legendre 14 = .ok (.iload_n 2, 1) := by decide +kernel
theorem dX0_legendre_15 : decode cX0_legendre 15 = .ok (.iload_n 0, 1) := by decide +kernel
theorem dX0_legendre_16 : decode cX0_legendre 16 = .ok (.idiv, 1) := by decide +kernel
theorem dX0_legendre_17 : decode cX0_legendre 17 = .ok (.istore 5, 2) := by decide +kernel
theorem dX0_legendre_19 : decode cX0_legendre 19 = .ok (.iload_n 1, 1) := by decide +kernel
theorem dX0_legendre_20 : decode cX0_legendre 20 = .ok (.iload_n 2, 1) := by decide +kernel
theorem dX0_legendre_21 : decode cX0_legendre 21 = .ok (.isub, 1) := by decide +kernel
theorem dX0_legendre_22 : decode cX0_legendre 22 = .ok (.iload_n 0, 1) := by decide +kernel
theorem dX0_legendre_23 : decode cX0_legendre 23 = .ok (.idiv, 1) := by decide +kernel
theorem dX0_legendre_24 : decode cX0_legendre 24 = .ok (.istore 6, 2) := by decide +kernel
theorem dX0_legendre_26 : decode cX0_legendre 26 = .ok (.iconst 0, 1) := by decide +kernel
theorem dX0_legendre_27 : decode cX0_legendre 27 = .ok (.istore 7, 2) := by decide +kernel
theorem dX0_legendre_29 : decode cX0_legendre 29 = .ok (.iload 7, 2) := by decide +kernel
theorem dX0_legendre_31 : decode cX0_legendre 31 = .ok (.bipush 14, 2) := by decide +kernel
theorem dX0_legendre_33 : decode cX0_legendre 33 = .ok (.if_icmp .ge 43, 3) := by decide +kernel
theorem dX0_legendre_36 : decode cX0_legendre 36 = .ok (.iload 4, 2) := by decide +kernel
theorem dX0_legendre_38 : decode cX0_legendre 38 = .ok (.ifCond .le 38, 3) := by decide +kernel
theorem dX0_legendre_41 : decode cX0_legendre 41 = .ok (.iload_n 3, 1) := by decide +kernel
theorem dX0_legendre_42 : decode cX0_legendre 42 = .ok (.iload 4, 2) := by decide +kernel
theorem dX0_legendre_44 : decode cX0_legendre 44 = .ok (.iload 5, 2) := by decide +kernel
theorem dX0_legendre_46 : decode cX0_legendre 46 = .ok (.isub, 1) := by decide +kernel
theorem dX0_legendre_47 : decode cX0_legendre 47 = .ok (.iload 6, 2) := by decide +kernel
theorem dX0_legendre_49 : decode cX0_legendre 49 = .ok (.isub, 1) := by decide +kernel
theorem dX0_legendre_50 : decode cX0_legendre 50 = .ok (.iadd, 1) := by decide +kernel
theorem dX0_legendre_51 : decode cX0_legendre 51 = .ok (.istore_n 3, 1) := by decide +kernel
theorem dX0_legendre_52 : decode cX0_legendre 52 = .ok (.iload 4, 2) := by decide +kernel
theorem dX0_legendre_54 : decode cX0_legendre 54 = .ok (.iload_n 0, 1) := by decide +kernel
theorem dX0_legendre_55 : decode cX0_legendre 55 = .ok (.idiv, 1) := by decide +kernel
theorem dX0_legendre_56 : decode cX0_legendre 56 = .ok (.istore 4, 2) := by decide +kernel
theorem dX0_legendre_58 : decode cX0_legendre 58 = .ok (.iload 5, 2) := by decide +kernel
theorem dX0_legendre_60 : decode cX0_legendre 60 = .ok (.iload_n 0, 1) := by decide +kernel
theorem dX0_legendre_61 : decode cX0_legendre 61 = .ok (.idiv, 1) := by decide +kernel
theorem dX0_legendre_62 : decode cX0_legendre 62 = .ok (.istore 5, 2) := by decide +kernel
theorem dX0_legendre_64 : decode cX0_legendre 64 = .ok (.iload 6, 2) := by decide +kernel
theorem dX0_legendre_66 : decode cX0_legendre 66 = .ok (.iload_n 0, 1) := by decide +kernel
theorem dX0_legendre_67 : decode cX0_legendre 67 = .ok (.idiv, 1) := by decide +kernel
theorem dX0_legendre_68 : decode cX0_legendre 68 = .ok (.istore 6, 2) := by decide +kernel
theorem dX0_legendre_70 : decode cX0_legendre 70 = .ok (.iinc 7 1, 3) := by decide +kernel
theorem dX0_legendre_73 : decode cX0_legendre 73 = .ok (.goto (-44), 3) := by decide +kernel
theorem dX0_legendre_76 : decode cX0_legendre 76 = .ok (.iload_n 3, 1) := by decide +kernel
theorem dX0_legendre_77 : decode cX0_legendre 77 = .ok (.ireturn, 1) := by decide +kernel
theorem dX0_isCovered_0 : decode cX0_isCovered 0 = .ok (.iload_n 0, 1) := by decide +kernel
theorem dX0_isCovered_1 : decode cX0_isCovered 1 = .ok (.iconst 2, 1) := by decide +kernel
theorem dX0_isCovered_2 : decode cX0_isCovered 2 = .ok (.if_icmp .ge 5, 3) := by decide +kernel
theorem dX0_isCovered_5 : decode cX0_isCovered 5 = .ok (.iconst 0, 1) := by decide +kernel
theorem dX0_isCovered_6 : decode cX0_isCovered 6 = .ok (.ireturn, 1) := by decide +kernel
theorem dX0_isCovered_7 : decode cX0_isCovered 7 = .ok (.iload_n 1, 1) := by decide +kernel
theorem dX0_isCovered_8 : decode cX0_isCovered 8 = .ok (.istore_n 3, 1) := by decide +kernel
theorem dX0_isCovered_9 : decode cX0_isCovered 9 = .ok (.iload_n 2, 1) := by decide +kernel
theorem dX0_isCovered_10 : decode cX0_isCovered 10 = .ok (.istore 4, 2) := by decide +kernel
theorem dX0_isCovered_12 : decode cX0_isCovered 12 = .ok (.iconst 0, 1) := by decide +kernel
theorem dX0_isCovered_13 : decode cX0_isCovered 13 = .ok (.istore 5, 2) := by decide +kernel
theorem dX0_isCovered_15 : decode cX0_isCovered 15 = .ok (.iload 5, 2) := by decide +kernel
theorem dX0_isCovered_17 : decode cX0_isCovered 17 = .ok (.bipush 14, 2) := by decide +kernel
theorem dX0_isCovered_19 : decode cX0_isCovered 19 = .ok (.if_icmp .ge 36, 3) := by decide +kernel
theorem dX0_isCovered_22 : decode cX0_isCovered 22 = .ok (.iload 4, 2) := by decide +kernel
theorem dX0_isCovered_24 : decode cX0_isCovered 24 = .ok (.ifCond .le 31, 3) := by decide +kernel
theorem dX0_isCovered_27 : decode cX0_isCovered 27 = .ok (.iload 4, 2) := by decide +kernel
theorem dX0_isCovered_29 : decode cX0_isCovered 29 = .ok (.iload_n 0, 1) := by decide +kernel
theorem dX0_isCovered_30 : decode cX0_isCovered 30 = .ok (.irem, 1) := by decide +kernel
theorem dX0_isCovered_31 : decode cX0_isCovered 31 = .ok (.iload_n 3, 1) := by decide +kernel
theorem dX0_isCovered_32 : decode cX0_isCovered 32 = .ok (.iload_n 0, 1) := by decide +kernel
theorem dX0_isCovered_33 : decode cX0_isCovered 33 = .ok (.irem, 1) := by decide +kernel
theorem dX0_isCovered_34 : decode cX0_isCovered 34 = .ok (.if_icmp .le 5, 3) := by decide +kernel
theorem dX0_isCovered_37 : decode cX0_isCovered 37 = .ok (.iconst 0, 1) := by decide +kernel
theorem dX0_isCovered_38 : decode cX0_isCovered 38 = .ok (.ireturn, 1) := by decide +kernel
theorem dX0_isCovered_39 : decode cX0_isCovered 39 = .ok (.iload_n 3, 1) := by decide +kernel
theorem dX0_isCovered_40 : decode cX0_isCovered 40 = .ok (.iload_n 0, 1) := by decide +kernel
theorem dX0_isCovered_41 : decode cX0_isCovered 41 = .ok (.idiv, 1) := by decide +kernel
theorem dX0_isCovered_42 : decode cX0_isCovered 42 = .ok (.istore_n 3, 1) := by decide +kernel
theorem dX0_isCovered_43 : decode cX0_isCovered 43 = .ok (.iload 4, 2) := by decide +kernel
theorem dX0_isCovered_45 : decode cX0_isCovered 45 = .ok (.iload_n 0, 1) := by decide +kernel
theorem dX0_isCovered_46 : decode cX0_isCovered 46 = .ok (.idiv, 1) := by decide +kernel
theorem dX0_isCovered_47 : decode cX0_isCovered 47 = .ok (.istore 4, 2) := by decide +kernel
theorem dX0_isCovered_49 : decode cX0_isCovered 49 = .ok (.iinc 5 1, 3) := by decide +kernel
theorem dX0_isCovered_52 : decode cX0_isCovered 52 = .ok (.goto (-37), 3) := by decide +kernel
theorem dX0_isCovered_55 : decode cX0_isCovered 55 = .ok (.iconst 1, 1) := by decide +kernel
theorem dX0_isCovered_56 : decode cX0_isCovered 56 = .ok (.ireturn, 1) := by decide +kernel
theorem dX1_init_0 : decode cX1_init 0 = .ok (.aload_n 0, 1) := by decide +kernel
theorem dX1_init_1 : decode cX1_init 1 = .ok (.invokespecial 3, 3) := by decide +kernel
theorem dX1_init_4 : decode cX1_init 4 = .ok (.aload_n 0, 1) := by decide +kernel
theorem dX1_init_5 : decode cX1_init 5 = .ok (.iconst 3, 1) := by decide +kernel
theorem dX1_init_6 : decode cX1_init 6 = .ok (.iconst 0, 1) := by decide +kernel
theorem dX1_init_7 : decode cX1_init 7 = .ok (.iload_n 1, 1) := by decide +kernel
theorem dX1_init_8 : decode cX1_init 8 = .ok (.bipush 12, 2) := by decide +kernel
theorem dX1_init_10 : decode cX1_init 10 = .ok (.invokestatic 11, 3) := by decide +kernel
theorem dX1_init_13 : decode cX1_init 13 = .ok (.invokestatic 17, 3) := by decide +kernel
theorem dX1_init_16 : decode cX1_init 16 = .ok (.imul, 1) := by decide +kernel
theorem dX1_init_17 : decode cX1_init 17 = .ok (.newarray .int, 2) := by decide +kernel
theorem dX1_init_19 : decode cX1_init 19 = .ok (.putfield 20, 3) := by decide +kernel
theorem dX1_init_22 : decode cX1_init 22 = .ok (.return_, 1) := by decide +kernel
theorem dX1_add_0 : decode cX1_add 0 = .ok (.iconst 3, 1) := by decide +kernel
theorem dX1_add_1 : decode cX1_add 1 = .ok (.aload_n 0, 1) := by decide +kernel
theorem dX1_add_2 : decode cX1_add 2 = .ok (.getfield 24, 3) := by decide +kernel
theorem dX1_add_5 : decode cX1_add 5 = .ok (.imul, 1) := by decide +kernel
theorem dX1_add_6 : decode cX1_add 6 = .ok (.istore 4, 2) := by decide +kernel
theorem dX1_add_8 : decode cX1_add 8 = .ok (.iload 4, 2) := by decide +kernel
theorem dX1_add_10 : decode cX1_add 10 = .ok (.ifCond .lt 15, 3) := by decide +kernel
theorem dX1_add_13 : decode cX1_add 13 = .ok (.iload 4, 2) := by decide +kernel
theorem dX1_add_15 : decode cX1_add 15 = .ok (.aload_n 0, 1) := by decide +kernel
theorem dX1_add_16 : decode cX1_add 16 = .ok (.getfield 20, 3) := by decide +kernel
theorem dX1_add_19 : decode cX1_add 19 = .ok (.arraylength, 1) := by decide +kernel
theorem dX1_add_20 : decode cX1_add 20 = .ok (.iconst 3, 1) := by decide +kernel
theorem dX1_add_21 : decode cX1_add 21 = .ok (.isub, 1) := by decide +kernel
theorem dX1_add_22 : decode cX1_add 22 = .ok (.if_icmp .le 6, 3) := by decide +kernel
theorem dX1_add_25 : decode cX1_add 25 = .ok (.bipush (-4), 2) := by decide +kernel
theorem dX1_add_27 : decode cX1_add 27 = .ok (.ireturn, 1) := by decide +kernel
theorem dX1_add_28 : decode cX1_add 28 = .ok (.aload_n 0, 1) := by decide +kernel
theorem dX1_add_29 : decode cX1_add 29 = .ok (.getfield 20, 3) := by decide +kernel
theorem dX1_add_32 : decode cX1_add 32 = .ok (.iload 4, 2) := by decide +kernel
theorem dX1_add_34 : decode cX1_add 34 = .ok (.iload_n 1, 1) := by decide +kernel
theorem dX1_add_35 : decode cX1_add 35 = .ok (.iastore, 1) := by decide +kernel
theorem dX1_add_36 : decode cX1_add 36 = .ok (.aload_n 0, 1) := by decide +kernel
theorem dX1_add_37 : decode cX1_add 37 = .ok (.getfield 20, 3) := by decide +kernel
theorem dX1_add_40 : decode cX1_add 40 = .ok (.iload 4, 2) := by decide +kernel
theorem dX1_add_42 : decode cX1_add 42 = .ok (.iconst 1, 1) := by decide +kernel
theorem dX1_add_43 : decode cX1_add 43 = .ok (.iadd, 1) := by decide +kernel
theorem dX1_add_44 : decode cX1_add 44 = .ok (.iload_n 2, 1) := by decide +kernel
theorem dX1_add_45 : decode cX1_add 45 = .ok (.iastore, 1) := by decide +kernel
theorem dX1_add_46 : decode cX1_add 46 = .ok (.aload_n 0, 1) := by decide +kernel
theorem dX1_add_47 : decode cX1_add 47 = .ok (.getfield 20, 3) := by decide +kernel
theorem dX1_add_50 : decode cX1_add 50 = .ok (.iload 4, 2) := by decide +kernel
theorem dX1_add_52 : decode cX1_add 52 = .ok (.iconst 2, 1) := by decide +kernel
theorem dX1_add_53 : decode cX1_add 53 = .ok (.iadd, 1) := by decide +kernel
theorem dX1_add_54 : decode cX1_add 54 = .ok (.iload_n 3, 1) := by decide +kernel
theorem dX1_add_55 : decode cX1_add 55 = .ok (.iastore, 1) := by decide +kernel
theorem dX1_add_56 : decode cX1_add 56 = .ok (.aload_n 0, 1) := by decide +kernel
theorem dX1_add_57 : decode cX1_add 57 = .ok (.dup, 1) := by decide +kernel
theorem dX1_add_58 : decode cX1_add 58 = .ok (.getfield 24, 3) := by decide +kernel
theorem dX1_add_61 : decode cX1_add 61 = .ok (.iconst 1, 1) := by decide +kernel
theorem dX1_add_62 : decode cX1_add 62 = .ok (.iadd, 1) := by decide +kernel
theorem dX1_add_63 : decode cX1_add 63 = .ok (.putfield 24, 3) := by decide +kernel
theorem dX1_add_66 : decode cX1_add 66 = .ok (.aload_n 0, 1) := by decide +kernel
theorem dX1_add_67 : decode cX1_add 67 = .ok (.getfield 24, 3) := by decide +kernel
theorem dX1_add_70 : decode cX1_add 70 = .ok (.ireturn, 1) := by decide +kernel
set_option maxRecDepth 20000 in
theorem ggX1_number_X6_isWithin : GoodIn wsX1_number wsX6_isWithin := goodIn_r _ [5] (by decide +kernel) (by decide +kernel)
set_option maxRecDepth 20000 in
theorem gX1_number_X6_isWithin_n28 : GoodIn wsX1_number (wsX6_isWithin) := ggX1_number_X6_isWithin
theorem dX1_number_0 : decode cX1_number 0 = .ok (.iload_n 1, 1) := by decide +kernel
theorem dX1_number_1 : decode cX1_number 1 = .ok (.iconst 0, 1) := by decide +kernel
theorem dX1_number_2 : decode cX1_number 2 = .ok (.aload_n 0, 1) := by decide +kernel
theorem dX1_number_3 : decode cX1_number 3 = .ok (.getfield 24, 3) := by decide +kernel
theorem dX1_number_6 : decode cX1_number 6 = .ok (.iconst 1, 1) := by decide +kernel
theorem dX1_number_7 : decode cX1_number 7 = .ok (.isub, 1) := by decide +kernel
theorem dX1_number_8 : decode cX1_number 8 = .ok (.invokestatic 28, 3) := by decide +kernel
theorem dX1_number_11 : decode cX1_number 11 = .ok (.ifCond .eq 12, 3) := by decide +kernel
theorem dX1_number_14 : decode cX1_number 14 = .ok (.iload_n 2, 1) := by decide +kernel
theorem dX1_number_15 : decode cX1_number 15 = .ok (.iconst 0, 1) := by decide +kernel
theorem dX1_number_16 : decode cX1_number 16 = .ok (.iconst 2, 1) := by decide +kernel
theorem dX1_number_17 : decode cX1_number 17 = .ok (.invokestatic 28, 3) := by decide +kernel
theorem dX1_number_20 : decode cX1_number 20 = .ok (.ifCond .ne 5, 3) := by decide +kernel
theorem dX1_number_23 : decode cX1_number 23 = .ok (.iconst 0, 1) := by decide +kernel
theorem dX1_number_24 : decode cX1_number 24 = .ok (.ireturn, 1) := by decide +kernel
theorem dX1_number_25 : decode cX1_number 25 = .ok (.iconst 3, 1) := by decide +kernel
theorem dX1_number_26 : decode cX1_number 26 = .ok (.iload_n 1, 1) := by decide +kernel
theorem dX1_number_27 : decode cX1_number 27 = .ok (.imul, 1) := by decide +kernel
theorem dX1_number_28 : decode cX1_number 28 = .ok (.iload_n 2, 1) := by decide +kernel
theorem dX1_number_29 : decode cX1_number 29 = .ok (.iadd, 1) := by decide +kernel
theorem dX1_number_30 : decode cX1_number 30 = .ok (.istore_n 3, 1) := by decide +kernel
theorem dX1_number_31 : decode cX1_number 31 = .ok (.iload_n 3, 1) := by decide +kernel
theorem dX1_number_32 : decode cX1_number 32 = .ok (.ifCond .lt 21, 3) := by decide +kernel
theorem dX1_number_35 : decode cX1_number 35 = .ok (.iload_n 3, 1) := by decide +kernel
theorem dX1_number_36 : decode cX1_number 36 = .ok (.aload_n 0, 1) := by decide +kernel
theorem dX1_number_37 : decode cX1_number 37 = .ok (.getfield 20, 3) := by decide +kernel
theorem dX1_number_40 : decode cX1_number 40 = .ok (.arraylength, 1) := by decide +kernel
theorem dX1_number_41 : decode cX1_number 41 = .ok (.if_icmp .ge 12, 3) := by decide +kernel
theorem dX1_number_44 : decode cX1_number 44 = .ok (.aload_n 0, 1) := by decide +kernel
theorem dX1_number_45 : decode cX1_number 45 = .ok (.getfield 20, 3) := by decide +kernel
theorem dX1_number_48 : decode cX1_number 48 = .ok (.iload_n 3, 1) := by decide +kernel
theorem dX1_number_49 : decode cX1_number 49 = .ok (.iaload, 1) := by decide +kernel
theorem dX1_number_50 : decode cX1_number 50 = .ok (.goto 4, 3) := by decide +kernel
theorem dX1_number_53 : decode cX1_number 53 = .ok (.iconst 0, 1) := by decide +kernel
theorem dX1_number_54 : decode cX1_number 54 = .ok (.ireturn, 1) := by decide +kernel
set_option maxRecDepth 20000 in
theorem ggX1_remove_X6_isWithin : GoodIn wsX1_remove wsX6_isWithin := goodIn_r _ [9] (by decide +kernel) (by decide +kernel)
set_option maxRecDepth 20000 in
theorem gX1_remove_X6_isWithin_n28 : GoodIn wsX1_remove (wsX6_isWithin) := ggX1_remove_X6_isWithin
theorem dX1_remove_0 : decode cX1_remove 0 = .ok (.iload_n 1, 1) := by decide +kernel
theorem dX1_remove_1 : decode cX1_remove 1 = .ok (.iconst 0, 1) := by decide +kernel
theorem dX1_remove_2 : decode cX1_remove 2 = .ok (.aload_n 0, 1) := by decide +kernel
theorem dX1_remove_3 : decode cX1_remove 3 = .ok (.getfield 24, 3) := by decide +kernel
theorem dX1_remove_6 : decode cX1_remove 6 = .ok (.iconst 1, 1) := by decide +kernel
theorem dX1_remove_7 : decode cX1_remove 7 = .ok (.isub, 1) := by decide +kernel
theorem dX1_remove_8 : decode cX1_remove 8 = .ok (.invokestatic 28, 3) := by decide +kernel
theorem dX1_remove_11 : decode cX1_remove 11 = .ok (.ifCond .ne 4, 3) := by decide +kernel
theorem dX1_remove_14 : decode cX1_remove 14 = .ok (.return_, 1) := by decide +kernel
theorem dX1_remove_15 : decode cX1_remove 15 = .ok (.iconst 3, 1) := by decide +kernel
theorem dX1_remove_16 : decode cX1_remove 16 = .ok (.iload_n 1, 1) := by decide +kernel
theorem dX1_remove_17 : decode cX1_remove 17 = .ok (.imul, 1) := by decide +kernel
theorem dX1_remove_18 : decode cX1_remove 18 = .ok (.istore_n 2, 1) := by decide +kernel
theorem dX1_remove_19 : decode cX1_remove 19 = .ok (.iconst 3, 1) := by decide +kernel
theorem dX1_remove_20 : decode cX1_remove 20 = .ok (.aload_n 0, 1) := by decide +kernel
theorem dX1_remove_21 : decode cX1_remove 21 = .ok (.getfield 24, 3) := by decide +kernel
theorem dX1_remove_24 : decode cX1_remove 24 = .ok (.iconst 1, 1) := by decide +kernel
theorem dX1_remove_25 : decode cX1_remove 25 = .ok (.isub, 1) := by decide +kernel
theorem dX1_remove_26 : decode cX1_remove 26 = .ok (.iload_n 1, 1) := by decide +kernel
theorem dX1_remove_27 : decode cX1_remove 27 = .ok (.isub, 1) := by decide +kernel
theorem dX1_remove_28 : decode cX1_remove 28 = .ok (.imul, 1) := by decide +kernel
theorem dX1_remove_29 : decode cX1_remove 29 = .ok (.istore_n 3, 1) := by decide +kernel
theorem dX1_remove_30 : decode cX1_remove 30 = .ok (.iload_n 2, 1) := by decide +kernel
theorem dX1_remove_31 : decode cX1_remove 31 = .ok (.ifCond .lt 46, 3) := by decide +kernel
theorem dX1_remove_34 : decode cX1_remove 34 = .ok (.iload_n 3, 1) := by decide +kernel
theorem dX1_remove_35 : decode cX1_remove 35 = .ok (.ifCond .lt 42, 3) := by decide +kernel
theorem dX1_remove_38 : decode cX1_remove 38 = .ok (.iload_n 3, 1) := by decide +kernel
theorem dX1_remove_39 : decode cX1_remove 39 = .ok (.aload_n 0, 1) := by decide +kernel
theorem dX1_remove_40 : decode cX1_remove 40 = .ok (.getfield 20, 3) := by decide +kernel
theorem dX1_remove_43 : decode cX1_remove 43 = .ok (.arraylength, 1) := by decide +kernel
theorem dX1_remove_44 : decode cX1_remove 44 = .ok (.iconst 3, 1) := by decide +kernel
theorem dX1_remove_45 : decode cX1_remove 45 = .ok (.isub, 1) := by decide +kernel
theorem dX1_remove_46 : decode cX1_remove 46 = .ok (.iload_n 2, 1) := by decide +kernel
theorem dX1_remove_47 : decode cX1_remove 47 = .ok (.isub, 1) := by decide +kernel
theorem dX1_remove_48 : decode cX1_remove 48 = .ok (.if_icmp .gt 29, 3) := by decide +kernel
theorem dX1_remove_51 : decode cX1_remove 51 = .ok (.aload_n 0, 1) := by decide +kernel
theorem dX1_remove_52 : decode cX1_remove 52 = .ok (.getfield 20, 3) := by decide +kernel
theorem dX1_remove_55 : decode cX1_remove 55 = .ok (.iload_n 2, 1) := by decide +kernel
theorem dX1_remove_56 : decode cX1_remove 56 = .ok (.iconst 3, 1) := by decide +kernel
theorem dX1_remove_57 : decode cX1_remove 57 = .ok (.iadd, 1) := by decide +kernel
theorem dX1_remove_58 : decode cX1_remove 58 = .ok (.aload_n 0, 1) := by decide +kernel
theorem dX1_remove_59 : decode cX1_remove 59 = .ok (.getfield 20, 3) := by decide +kernel
theorem dX1_remove_62 : decode cX1_remove 62 = .ok (.iload_n 2, 1) := by decide +kernel
theorem dX1_remove_63 : decode cX1_remove 63 = .ok (.iload_n 3, 1) := by decide +kernel
theorem dX1_remove_64 : decode cX1_remove 64 = .ok (.invokestatic 32, 3) := by decide +kernel
theorem dX1_remove_67 : decode cX1_remove 67 = .ok (.aload_n 0, 1) := by decide +kernel
theorem dX1_remove_68 : decode cX1_remove 68 = .ok (.dup, 1) := by decide +kernel
theorem dX1_remove_69 : decode cX1_remove 69 = .ok (.getfield 24, 3) := by decide +kernel
theorem dX1_remove_72 : decode cX1_remove 72 = .ok (.iconst 1, 1) := by decide +kernel
theorem dX1_remove_73 : decode cX1_remove 73 = .ok (.isub, 1) := by decide +kernel
theorem dX1_remove_74 : decode cX1_remove 74 = .ok (.putfield 24, 3) := by decide +kernel
theorem dX1_remove_77 : decode cX1_remove 77 = .ok (.return_, 1) := by decide +kernel
theorem dX1_empty_0 : decode cX1_empty 0 = .ok (.aload_n 0, 1) := by decide +kernel
theorem dX1_empty_1 : decode cX1_empty 1 = .ok (.iconst 0, 1) := by decide +kernel
theorem dX1_empty_2 : decode cX1_empty 2 = .ok (.putfield 24, 3) := by decide +kernel
theorem dX1_empty_5 : decode cX1_empty 5 = .ok (.return_, 1) := by decide +kernel
theorem dX1_copyFrom_0 : decode cX1_copyFrom 0 = .ok (.aload_n 1, 1) := by decide +kernel
theorem dX1_copyFrom_1 : decode cX1_copyFrom 1 = .ok (.ifnull 42, 3) := by decide +kernel
theorem dX1_copyFrom_4 : decode cX1_copyFrom 4 = .ok (.aload_n 1, 1) := by decide +kernel
theorem dX1_copyFrom_5 : decode cX1_copyFrom 5 = .ok (.getfield 20, 3) := by decide +kernel
theorem dX1_copyFrom_8 : decode cX1_copyFrom 8 = .ok (.arraylength, 1) := by decide +kernel
theorem dX1_copyFrom_9 : decode cX1_copyFrom 9 = .ok (.aload_n 0, 1) := by decide +kernel
theorem dX1_copyFrom_10 : decode cX1_copyFrom 10 = .ok (.getfield 20, 3) := by decide +kernel
theorem dX1_copyFrom_13 : decode cX1_copyFrom 13 = .ok (.arraylength, 1) := by decide +kernel
theorem dX1_copyFrom_14 : decode cX1_copyFrom 14 = .ok (.if_icmp .ne 29, 3) := by decide +kernel
theorem dX1_copyFrom_17 : decode cX1_copyFrom 17 = .ok (.aload_n 1, 1) := by decide +kernel
theorem dX1_copyFrom_18 : decode cX1_copyFrom 18 = .ok (.getfield 20, 3) := by decide +kernel
theorem dX1_copyFrom_21 : decode cX1_copyFrom 21 = .ok (.iconst 0, 1) := by decide +kernel
theorem dX1_copyFrom_22 : decode cX1_copyFrom 22 = .ok (.aload_n 0, 1) := by decide +kernel
theorem dX1_copyFrom_23 : decode cX1_copyFrom 23 = .ok (.getfield 20, 3) := by decide +kernel
theorem dX1_copyFrom_26 : decode cX1_copyFrom 26 = .ok (.iconst 0, 1) := by decide +kernel
theorem dX1_copyFrom_27 : decode cX1_copyFrom 27 = .ok (.aload_n 0, 1) := by decide +kernel
theorem dX1_copyFrom_28 : decode cX1_copyFrom 28 = .ok (.getfield 20, 3) := by decide +kernel
theorem dX1_copyFrom_31 : decode cX1_copyFrom 31 = .ok (.arraylength, 1) := by decide +kernel
theorem dX1_copyFrom_32 : decode cX1_copyFrom 32 = .ok (.invokestatic 32, 3) := by decide +kernel
theorem dX1_copyFrom_35 : decode cX1_copyFrom 35 = .ok (.aload_n 0, 1) := by decide +kernel
theorem dX1_copyFrom_36 : decode cX1_copyFrom 36 = .ok (.aload_n 1, 1) := by decide +kernel
theorem dX1_copyFrom_37 : decode cX1_copyFrom 37 = .ok (.getfield 24, 3) := by decide +kernel
theorem dX1_copyFrom_40 : decode cX1_copyFrom 40 = .ok (.putfield 24, 3) := by decide +kernel
theorem dX1_copyFrom_43 : decode cX1_copyFrom 43 = .ok (.return_, 1) := by decide +kernel
set_option maxRecDepth 20000 in
theorem ggX2_init_X1_init : GoodIn wsX2_init wsX1_init := goodIn_r _ [12, 13, 2, 3, 14, 15, 16, 17, 18, 19, 20, 4, 21, 26, 27] (by decide +kernel) (by decide +kernel)
set_option maxRecDepth 20000 in
theorem gX2_init_X1_init : GoodIn wsX2_init (wsX1_init) := ggX2_init_X1_init
theorem dX2_init_0 : decode cX2_init 0 = .ok (.aload_n 0, 1) := by decide +kernel
theorem dX2_init_1 : decode cX2_init 1 = .ok (.invokespecial 3, 3) := by decide +kernel
theorem dX2_init_4 : decode cX2_init 4 = .ok (.aload_n 0, 1) := by decide +kernel
theorem dX2_init_5 : decode cX2_init 5 = .ok (.bipush 100, 2) := by decide +kernel
theorem dX2_init_7 : decode cX2_init 7 = .ok (.newarray .int, 2) := by decide +kernel
theorem dX2_init_9 : decode cX2_init 9 = .ok (.putfield 11, 3) := by decide +kernel
theorem dX2_init_12 : decode cX2_init 12 = .ok (.aload_n 0, 1) := by decide +kernel
theorem dX2_init_13 : decode cX2_init 13 = .ok (.new 15, 3) := by decide +kernel
theorem dX2_init_16 : decode cX2_init 16 = .ok (.dup, 1) := by decide +kernel
theorem dX2_init_17 : decode cX2_init 17 = .ok (.bipush 12, 2) := by decide +kernel
theorem dX2_init_19 : decode cX2_init 19 = .ok (.invokespecial 17, 3) := by decide +kernel
theorem dX2_init_22 : decode cX2_init 22 = .ok (.putfield 20, 3) := by decide +kernel
theorem dX2_init_25 : decode cX2_init 25 = .ok (.return_, 1) := by decide +kernel
theorem dX2_add_0 : decode cX2_add 0 = .ok (.aload_n 0, 1) := by decide +kernel
theorem dX2_add_1 : decode cX2_add 1 = .ok (.getfield 24, 3) := by decide +kernel
theorem dX2_add_4 : decode cX2_add 4 = .ok (.ifCond .lt 15, 3) := by decide +kernel
theorem dX2_add_7 : decode cX2_add 7 = .ok (.aload_n 0, 1) := by decide +kernel
theorem dX2_add_8 : decode cX2_add 8 = .ok (.getfield 24, 3) := by decide +kernel
theorem dX2_add_11 : decode cX2_add 11 = .ok (.aload_n 0, 1) := by decide +kernel
theorem dX2_add_12 : decode cX2_add 12 = .ok (.getfield 11, 3) := by decide +kernel
theorem dX2_add_15 : decode cX2_add 15 = .ok (.arraylength, 1) := by decide +kernel
theorem dX2_add_16 : decode cX2_add 16 = .ok (.if_icmp .lt 6, 3) := by decide +kernel
theorem dX2_add_19 : decode cX2_add 19 = .ok (.bipush (-4), 2) := by decide +kernel
theorem dX2_add_21 : decode cX2_add 21 = .ok (.ireturn, 1) := by decide +kernel
theorem dX2_add_22 : decode cX2_add 22 = .ok (.aload_n 0, 1) := by decide +kernel
theorem dX2_add_23 : decode cX2_add 23 = .ok (.getfield 11, 3) := by decide +kernel
theorem dX2_add_26 : decode cX2_add 26 = .ok (.aload_n 0, 1) := by decide +kernel
theorem dX2_add_27 : decode cX2_add 27 = .ok (.getfield 24, 3) := by decide +kernel
theorem dX2_add_30 : decode cX2_add 30 = .ok (.iload_n 1, 1) := by decide +kernel
theorem dX2_add_31 : decode cX2_add 31 = .ok (.iastore, 1) := by decide +kernel
theorem dX2_add_32 : decode cX2_add 32 = .ok (.aload_n 0, 1) := by decide +kernel
theorem dX2_add_33 : decode cX2_add 33 = .ok (.dup, 1) := by decide +kernel
theorem dX2_add_34 : decode cX2_add 34 = .ok (.getfield 24, 3) := by decide +kernel
theorem dX2_add_37 : decode cX2_add 37 = .ok (.iconst 1, 1) := by decide +kernel
theorem dX2_add_38 : decode cX2_add 38 = .ok (.iadd, 1) := by decide +kernel
theorem dX2_add_39 : decode cX2_add 39 = .ok (.putfield 24, 3) := by decide +kernel
theorem dX2_add_42 : decode cX2_add 42 = .ok (.aload_n 0, 1) := by decide +kernel
theorem dX2_add_43 : decode cX2_add 43 = .ok (.getfield 24, 3) := by decide +kernel
theorem dX2_add_46 : decode cX2_add 46 = .ok (.ireturn, 1) := by decide +kernel
theorem dX2_emptyText_0 : decode cX2_emptyText 0 = .ok (.aload_n 0, 1) := by decide +kernel
theorem dX2_emptyText_1 : decode cX2_emptyText 1 = .ok (.iconst 0, 1) := by decide +kernel
theorem dX2_emptyText_2 : decode cX2_emptyText 2 = .ok (.putfield 24, 3) := by decide +kernel
theorem dX2_emptyText_5 : decode cX2_emptyText 5 = .ok (.return_, 1) := by decide +kernel
set_option maxRecDepth 20000 in
theorem ggX2_faultOfText_X1_empty : GoodIn wsX2_faultOfText wsX1_empty := goodIn_r _ [8, 9, 44, 45] (by decide +kernel) (by decide +kernel)
set_option maxRecDepth 20000 in
theorem gX2_faultOfText_X1_empty : GoodIn wsX2_faultOfText (wsV RX2 28 RX1 yX1_empty wsX1_empty) := goodIn_app (goodIn_of _ (by decide +kernel)) ggX2_faultOfText_X1_empty
set_option maxRecDepth 20000 in
theorem ggX2_faultOfText_X2_takeClause : GoodIn wsX2_faultOfText wsX2_takeClause := goodIn_r _ [14, 2, 1, 15, 16, 17, 13, 18, 3, 19, 20, 21, 22, 23, 24, 25, 26, 27, 28, 29, 30, 31, 32, 33, 34, 35, 36, 37, 7, 38, 9, 39, 40, 41, 42, 43, 44, 45] (by decide +kernel) (by decide +kernel)
set_option maxRecDepth 20000 in
theorem gX2_faultOfText_X2_takeClause : GoodIn wsX2_faultOfText (wsV RX2 34 RX2 yX2_takeClause wsX2_takeClause) := goodIn_app (goodIn_of _ (by decide +kernel)) ggX2_faultOfText_X2_takeClause
set_option maxRecDepth 20000 in
theorem ggX2_faultOfText_X2_take : GoodIn wsX2_faultOfText wsX2_take := goodIn_r _ [34, 2, 15, 16, 17, 13, 18, 3, 19, 40, 41, 42, 43] (by decide +kernel) (by decide +kernel)
set_option maxRecDepth 20000 in
theorem gX2_faultOfText_X2_take : GoodIn wsX2_faultOfText (wsV RX2 38 RX2 yX2_take wsX2_take) := goodIn_app (goodIn_of _ (by decide +kernel)) ggX2_faultOfText_X2_take
theorem dX2_faultOfText_0 : decode cX2_faultOfText 0 = .ok (.aload_n 0, 1) := by decide +kernel
theorem dX2_faultOfText_1 : decode cX2_faultOfText 1 = .ok (.getfield 20, 3) := by decide +kernel
theorem dX2_faultOfText_4 : decode cX2_faultOfText 4 = .ok (.invokevirtual 28, 3) := by decide +kernel
theorem dX2_faultOfText_7 : decode cX2_faultOfText 7 = .ok (.aload_n 0, 1) := by decide +kernel
theorem dX2_faultOfText_8 : decode cX2_faultOfText 8 = .ok (.iconst 0, 1) := by decide +kernel
theorem dX2_faultOfText_9 : decode cX2_faultOfText 9 = .ok (.putfield 31, 3) := by decide +kernel
theorem dX2_faultOfText_12 : decode cX2_faultOfText 12 = .ok (.iconst 0, 1) := by decide +kernel
theorem dX2_faultOfText_13 : decode cX2_faultOfText 13 = .ok (.istore_n 1, 1) := by decide +kernel
theorem dX2_faultOfText_14 : decode cX2_faultOfText 14 = .ok (.iload_n 1, 1) := by decide +kernel
theorem dX2_faultOfText_15 : decode cX2_faultOfText 15 = .ok (.bipush 12, 2) := by decide +kernel
theorem dX2_faultOfText_17 : decode cX2_faultOfText 17 = .ok (.if_icmp .ge 54, 3) := by decide +kernel
theorem dX2_faultOfText_20 : decode cX2_faultOfText 20 = .ok (.aload_n 0, 1) := by decide +kernel
theorem dX2_faultOfText_21 : decode cX2_faultOfText 21 = .ok (.invokevirtual 34, 3) := by decide +kernel
theorem dX2_faultOfText_24 : decode cX2_faultOfText 24 = .ok (.ifCond .ne 8, 3) := by decide +kernel
theorem dX2_faultOfText_27 : decode cX2_faultOfText 27 = .ok (.aload_n 0, 1) := by decide +kernel
theorem dX2_faultOfText_28 : decode cX2_faultOfText 28 = .ok (.getfield 31, 3) := by decide +kernel
theorem dX2_faultOfText_31 : decode cX2_faultOfText 31 = .ok (.ireturn, 1) := by decide +kernel
theorem dX2_faultOfText_32 : decode cX2_faultOfText 32 = .ok (.aload_n 0, 1) := by decide +kernel
theorem dX2_faultOfText_33 : decode cX2_faultOfText 33 = .ok (.getfield 31, 3) := by decide +kernel
theorem dX2_faultOfText_36 : decode cX2_faultOfText 36 = .ok (.aload_n 0, 1) := by decide +kernel
theorem dX2_faultOfText_37 : decode cX2_faultOfText 37 = .ok (.getfield 24, 3) := by decide +kernel
theorem dX2_faultOfText_40 : decode cX2_faultOfText 40 = .ok (.if_icmp .lt 5, 3) := by decide +kernel
theorem dX2_faultOfText_43 : decode cX2_faultOfText 43 = .ok (.iconst (-1), 1) := by decide +kernel
theorem dX2_faultOfText_44 : decode cX2_faultOfText 44 = .ok (.ireturn, 1) := by decide +kernel
theorem dX2_faultOfText_45 : decode cX2_faultOfText 45 = .ok (.iload_n 1, 1) := by decide +kernel
theorem dX2_faultOfText_46 : decode cX2_faultOfText 46 = .ok (.bipush 11, 2) := by decide +kernel
theorem dX2_faultOfText_48 : decode cX2_faultOfText 48 = .ok (.if_icmp .eq 12, 3) := by decide +kernel
theorem dX2_faultOfText_51 : decode cX2_faultOfText 51 = .ok (.aload_n 0, 1) := by decide +kernel
theorem dX2_faultOfText_52 : decode cX2_faultOfText 52 = .ok (.bipush 59, 2) := by decide +kernel
theorem dX2_faultOfText_54 : decode cX2_faultOfText 54 = .ok (.invokevirtual 38, 3) := by decide +kernel
theorem dX2_faultOfText_57 : decode cX2_faultOfText 57 = .ok (.ifCond .ne 8, 3) := by decide +kernel
theorem dX2_faultOfText_60 : decode cX2_faultOfText 60 = .ok (.aload_n 0, 1) := by decide +kernel
theorem dX2_faultOfText_61 : decode cX2_faultOfText 61 = .ok (.getfield 31, 3) := by decide +kernel
theorem dX2_faultOfText_64 : decode cX2_faultOfText 64 = .ok (.ireturn, 1) := by decide +kernel
theorem dX2_faultOfText_65 : decode cX2_faultOfText 65 = .ok (.iinc 1 1, 3) := by decide +kernel
theorem dX2_faultOfText_68 : decode cX2_faultOfText 68 = .ok (.goto (-54), 3) := by decide +kernel
theorem dX2_faultOfText_71 : decode cX2_faultOfText 71 = .ok (.aload_n 0, 1) := by decide +kernel
theorem dX2_faultOfText_72 : decode cX2_faultOfText 72 = .ok (.getfield 31, 3) := by decide +kernel
theorem dX2_faultOfText_75 : decode cX2_faultOfText 75 = .ok (.ireturn, 1) := by decide +kernel
set_option maxRecDepth 20000 in
theorem ggX2_takeClause_X2_sign : GoodIn wsX2_takeClause wsX2_sign := goodIn_r _ [7, 1, 8, 9, 32, 33, 34, 35] (by decide +kernel) (by decide +kernel)
set_option maxRecDepth 20000 in
theorem gX2_takeClause_X2_sign : GoodIn wsX2_takeClause (wsV RX2 42 RX2 yX2_sign wsX2_sign) := goodIn_app (goodIn_of _ (by decide +kernel)) ggX2_takeClause_X2_sign
set_option maxRecDepth 20000 in
theorem ggX2_takeClause_X2_takeNumber : GoodIn wsX2_takeClause wsX2_takeNumber := goodIn_r _ [13, 14, 15, 16, 17, 1, 3, 4, 5, 6, 7, 8, 9, 18, 19, 20, 32, 33, 34, 35] (by decide +kernel) (by decide +kernel)
set_option maxRecDepth 20000 in
theorem gX2_takeClause_X2_takeNumber : GoodIn wsX2_takeClause (wsV RX2 46 RX2 yX2_takeNumber wsX2_takeNumber) := goodIn_app (goodIn_of _ (by decide +kernel)) ggX2_takeClause_X2_takeNumber
set_option maxRecDepth 20000 in
theorem ggX2_takeClause_X2_take : GoodIn wsX2_takeClause wsX2_take := goodIn_r _ [24, 1, 3, 4, 5, 6, 7, 8, 9, 32, 33, 34, 35] (by decide +kernel) (by decide +kernel)
set_option maxRecDepth 20000 in
theorem gX2_takeClause_X2_take : GoodIn wsX2_takeClause (wsV RX2 38 RX2 yX2_take wsX2_take) := goodIn_app (goodIn_of _ (by decide +kernel)) ggX2_takeClause_X2_take
set_option maxRecDepth 20000 in
theorem ggX2_takeClause_X1_add : GoodIn wsX2_takeClause wsX1_add := goodIn_r _ [29, 30, 31, 36, 37] (by decide +kernel) (by decide +kernel)
set_option maxRecDepth 20000 in
theorem gX2_takeClause_X1_add : GoodIn wsX2_takeClause (wsV RX2 50 RX1 yX1_add wsX1_add) := goodIn_app (goodIn_of _ (by decide +kernel)) ggX2_takeClause_X1_add
theorem dX2_takeClause_0 : decode cX2_takeClause 0 = .ok (.aload_n 0, 1) := by decide +kernel
theorem dX2_takeClause_1 : decode cX2_takeClause 1 = .ok (.invokevirtual 42, 3) := by decide +kernel
theorem dX2_takeClause_4 : decode cX2_takeClause 4 = .ok (.istore_n 1, 1) := by decide +kernel
theorem dX2_takeClause_5 : decode cX2_takeClause 5 = .ok (.iload_n 1, 1) := by decide +kernel
theorem dX2_takeClause_6 : decode cX2_takeClause 6 = .ok (.bipush 112, 2) := by decide +kernel
theorem dX2_takeClause_8 : decode cX2_takeClause 8 = .ok (.if_icmp .eq 29, 3) := by decide +kernel
theorem dX2_takeClause_11 : decode cX2_takeClause 11 = .ok (.iload_n 1, 1) := by decide +kernel
theorem dX2_takeClause_12 : decode cX2_takeClause 12 = .ok (.bipush 101, 2) := by decide +kernel
theorem dX2_takeClause_14 : decode cX2_takeClause 14 = .ok (.if_icmp .eq 23, 3) := by decide +kernel
theorem dX2_takeClause_17 : decode cX2_takeClause 17 = .ok (.iload_n 1, 1) := by decide +kernel
theorem dX2_takeClause_18 : decode cX2_takeClause 18 = .ok (.bipush 109, 2) := by decide +kernel
theorem dX2_takeClause_20 : decode cX2_takeClause 20 = .ok (.if_icmp .eq 17, 3) := by decide +kernel
theorem dX2_takeClause_23 : decode cX2_takeClause 23 = .ok (.iload_n 1, 1) := by decide +kernel
theorem dX2_takeClause_24 : decode cX2_takeClause 24 = .ok (.bipush 120, 2) := by decide +kernel
theorem dX2_takeClause_26 : decode cX2_takeClause 26 = .ok (.if_icmp .eq 11, 3) := by decide +kernel
theorem dX2_takeClause_29 : decode cX2_takeClause 29 = .ok (.iload_n 1, 1) := by decide +kernel
theorem dX2_takeClause_30 : decode cX2_takeClause 30 = .ok (.bipush 119, 2) := by decide +kernel
theorem dX2_takeClause_32 : decode cX2_takeClause 32 = .ok (.if_icmp .eq 5, 3) := by decide +kernel
theorem dX2_takeClause_35 : decode cX2_takeClause 35 = .ok (.iconst 0, 1) := by decide +kernel
theorem dX2_takeClause_36 : decode cX2_takeClause 36 = .ok (.ireturn, 1) := by decide +kernel
theorem dX2_takeClause_37 : decode cX2_takeClause 37 = .ok (.aload_n 0, 1) := by decide +kernel
theorem dX2_takeClause_38 : decode cX2_takeClause 38 = .ok (.dup, 1) := by decide +kernel
theorem dX2_takeClause_39 : decode cX2_takeClause 39 = .ok (.getfield 31, 3) := by decide +kernel
theorem dX2_takeClause_42 : decode cX2_takeClause 42 = .ok (.iconst 1, 1) := by decide +kernel
theorem dX2_takeClause_43 : decode cX2_takeClause 43 = .ok (.iadd, 1) := by decide +kernel
theorem dX2_takeClause_44 : decode cX2_takeClause 44 = .ok (.putfield 31, 3) := by decide +kernel
theorem dX2_takeClause_47 : decode cX2_takeClause 47 = .ok (.iconst 0, 1) := by decide +kernel
theorem dX2_takeClause_48 : decode cX2_takeClause 48 = .ok (.istore_n 2, 1) := by decide +kernel
theorem dX2_takeClause_49 : decode cX2_takeClause 49 = .ok (.iload_n 1, 1) := by decide +kernel
theorem dX2_takeClause_50 : decode cX2_takeClause 50 = .ok (.bipush 120, 2) := by decide +kernel
theorem dX2_takeClause_52 : decode cX2_takeClause 52 = .ok (.if_icmp .eq 19, 3) := by decide +kernel
theorem dX2_takeClause_55 : decode cX2_takeClause 55 = .ok (.aload_n 0, 1) := by decide +kernel
theorem dX2_takeClause_56 : decode cX2_takeClause 56 = .ok (.iload_n 1, 1) := by decide +kernel
theorem dX2_takeClause_57 : decode cX2_takeClause 57 = .ok (.bipush 119, 2) := by decide +kernel
theorem dX2_takeClause_59 : decode cX2_takeClause 59 = .ok (.if_icmp .ne 7, 3) := by decide +kernel
theorem dX2_takeClause_62 : decode cX2_takeClause 62 = .ok (.iconst 3, 1) := by decide +kernel
theorem dX2_takeClause_63 : decode cX2_takeClause 63 = .ok (.goto 4, 3) := by decide +kernel
theorem dX2_takeClause_66 : decode cX2_takeClause 66 = .ok (.iconst 1, 1) := by decide +kernel
theorem dX2_takeClause_67 : decode cX2_takeClause 67 = .ok (.invokevirtual 46, 3) := by decide +kernel
theorem dX2_takeClause_70 : decode cX2_takeClause 70 = .ok (.istore_n 2, 1) := by decide +kernel
theorem dX2_takeClause_71 : decode cX2_takeClause 71 = .ok (.iload_n 2, 1) := by decide +kernel
theorem dX2_takeClause_72 : decode cX2_takeClause 72 = .ok (.iconst (-1), 1) := by decide +kernel
theorem dX2_takeClause_73 : decode cX2_takeClause 73 = .ok (.if_icmp .eq 18, 3) := by decide +kernel
theorem dX2_takeClause_76 : decode cX2_takeClause 76 = .ok (.iload_n 1, 1) := by decide +kernel
theorem dX2_takeClause_77 : decode cX2_takeClause 77 = .ok (.bipush 119, 2) := by decide +kernel
theorem dX2_takeClause_79 : decode cX2_takeClause 79 = .ok (.if_icmp .ne 14, 3) := by decide +kernel
theorem dX2_takeClause_82 : decode cX2_takeClause 82 = .ok (.aload_n 0, 1) := by decide +kernel
theorem dX2_takeClause_83 : decode cX2_takeClause 83 = .ok (.bipush 44, 2) := by decide +kernel
theorem dX2_takeClause_85 : decode cX2_takeClause 85 = .ok (.invokevirtual 38, 3) := by decide +kernel
theorem dX2_takeClause_88 : decode cX2_takeClause 88 = .ok (.ifCond .ne 5, 3) := by decide +kernel
theorem dX2_takeClause_91 : decode cX2_takeClause 91 = .ok (.iconst 0, 1) := by decide +kernel
theorem dX2_takeClause_92 : decode cX2_takeClause 92 = .ok (.ireturn, 1) := by decide +kernel
theorem dX2_takeClause_93 : decode cX2_takeClause 93 = .ok (.iload_n 1, 1) := by decide +kernel
theorem dX2_takeClause_94 : decode cX2_takeClause 94 = .ok (.bipush 109, 2) := by decide +kernel
theorem dX2_takeClause_96 : decode cX2_takeClause 96 = .ok (.if_icmp .eq 9, 3) := by decide +kernel
theorem dX2_takeClause_99 : decode cX2_takeClause 99 = .ok (.iload_n 1, 1) := by decide +kernel
theorem dX2_takeClause_100 : decode cX2_takeClause 100 = .ok (.bipush 119, 2) := by decide +kernel
theorem dX2_takeClause_102 : decode cX2_takeClause 102 = .ok (.if_icmp .ne 11, 3) := by decide +kernel
theorem dX2_takeClause_105 : decode cX2_takeClause 105 = .ok (.aload_n 0, 1) := by decide +kernel
theorem dX2_takeClause_106 : decode cX2_takeClause 106 = .ok (.iconst 3, 1) := by decide +kernel
theorem dX2_takeClause_107 : decode cX2_takeClause 107 = .ok (.invokevirtual 46, 3) := by decide +kernel
theorem dX2_takeClause_110 : decode cX2_takeClause 110 = .ok (.goto 4, 3) := by decide +kernel
theorem dX2_takeClause_113 : decode cX2_takeClause 113 = .ok (.iconst 0, 1) := by decide +kernel
theorem dX2_takeClause_114 : decode cX2_takeClause 114 = .ok (.istore_n 3, 1) := by decide +kernel
theorem dX2_takeClause_115 : decode cX2_takeClause 115 = .ok (.iload_n 3, 1) := by decide +kernel
theorem dX2_takeClause_116 : decode cX2_takeClause 116 = .ok (.iconst (-1), 1) := by decide +kernel
theorem dX2_takeClause_117 : decode cX2_takeClause 117 = .ok (.if_icmp .eq 20, 3) := by decide +kernel
theorem dX2_takeClause_120 : decode cX2_takeClause 120 = .ok (.aload_n 0, 1) := by decide +kernel
theorem dX2_takeClause_121 : decode cX2_takeClause 121 = .ok (.getfield 20, 3) := by decide +kernel
theorem dX2_takeClause_124 : decode cX2_takeClause 124 = .ok (.iload_n 1, 1) := by decide +kernel
theorem dX2_takeClause_125 : decode cX2_takeClause 125 = .ok (.iload_n 2, 1) := by decide +kernel
theorem dX2_takeClause_126 : decode cX2_takeClause 126 = .ok (.iload_n 3, 1) := by decide +kernel
theorem dX2_takeClause_127 : decode cX2_takeClause 127 = .ok (.invokevirtual 50, 3) := by decide +kernel
theorem dX2_takeClause_130 : decode cX2_takeClause 130 = .ok (.ifCond .le 7, 3) := by decide +kernel
theorem dX2_takeClause_133 : decode cX2_takeClause 133 = .ok (.iconst 1, 1) := by decide +kernel
theorem dX2_takeClause_134 : decode cX2_takeClause 134 = .ok (.goto 4, 3) := by decide +kernel
theorem dX2_takeClause_137 : decode cX2_takeClause 137 = .ok (.iconst 0, 1) := by decide +kernel
theorem dX2_takeClause_138 : decode cX2_takeClause 138 = .ok (.ireturn, 1) := by decide +kernel
set_option maxRecDepth 20000 in
theorem ggX2_takeNumber_X2_sign : GoodIn wsX2_takeNumber wsX2_sign := goodIn_r _ [10, 5, 11, 12, 16, 17, 18, 19] (by decide +kernel) (by decide +kernel)
set_option maxRecDepth 20000 in
theorem gX2_takeNumber_X2_sign : GoodIn wsX2_takeNumber (wsV RX2 42 RX2 yX2_sign wsX2_sign) := goodIn_app (goodIn_of _ (by decide +kernel)) ggX2_takeNumber_X2_sign
set_option maxRecDepth 20000 in
theorem ggX2_takeNumber_X6_isWithin : GoodIn wsX2_takeNumber wsX6_isWithin := goodIn_r _ [15] (by decide +kernel) (by decide +kernel)
set_option maxRecDepth 20000 in
theorem gX2_takeNumber_X6_isWithin_n54 : GoodIn wsX2_takeNumber (wsX6_isWithin) := ggX2_takeNumber_X6_isWithin
theorem dX2_takeNumber_0 : decode cX2_takeNumber 0 = .ok (.iconst (-1), 1) := by decide +kernel
theorem dX2_takeNumber_1 : decode cX2_takeNumber 1 = .ok (.istore_n 2, 1) := by decide +kernel
theorem dX2_takeNumber_2 : decode cX2_takeNumber 2 = .ok (.iconst 0, 1) := by decide +kernel
theorem dX2_takeNumber_3 : decode cX2_takeNumber 3 = .ok (.istore_n 3, 1) := by decide +kernel
theorem dX2_takeNumber_4 : decode cX2_takeNumber 4 = .ok (.iload_n 3, 1) := by decide +kernel
theorem dX2_takeNumber_5 : decode cX2_takeNumber 5 = .ok (.iload_n 1, 1) := by decide +kernel
theorem dX2_takeNumber_6 : decode cX2_takeNumber 6 = .ok (.if_icmp .ge 53, 3) := by decide +kernel
theorem dX2_takeNumber_9 : decode cX2_takeNumber 9 = .ok (.aload_n 0, 1) := by decide +kernel
theorem dX2_takeNumber_10 : decode cX2_takeNumber 10 = .ok (.invokevirtual 42, 3) := by decide +kernel
theorem dX2_takeNumber_13 : decode cX2_takeNumber 13 = .ok (.bipush 48, 2) := by decide +kernel
theorem dX2_takeNumber_15 : decode cX2_takeNumber 15 = .ok (.isub, 1) := by decide +kernel
theorem dX2_takeNumber_16 : decode cX2_takeNumber 16 = .ok (.istore 4, 2) := by decide +kernel
theorem dX2_takeNumber_18 : decode cX2_takeNumber 18 = .ok (.iload 4, 2) := by decide +kernel
theorem dX2_takeNumber_20 : decode cX2_takeNumber 20 = .ok (.iconst 0, 1) := by decide +kernel
theorem dX2_takeNumber_21 : decode cX2_takeNumber 21 = .ok (.bipush 9, 2) := by decide +kernel
theorem dX2_takeNumber_23 : decode cX2_takeNumber 23 = .ok (.invokestatic 54, 3) := by decide +kernel
theorem dX2_takeNumber_26 : decode cX2_takeNumber 26 = .ok (.ifCond .ne 5, 3) := by decide +kernel
theorem dX2_takeNumber_29 : decode cX2_takeNumber 29 = .ok (.iload_n 2, 1) := by decide +kernel
theorem dX2_takeNumber_30 : decode cX2_takeNumber 30 = .ok (.ireturn, 1) := by decide +kernel
theorem dX2_takeNumber_31 : decode cX2_takeNumber 31 = .ok (.bipush 10, 2) := by decide +kernel
theorem dX2_takeNumber_33 : decode cX2_takeNumber 33 = .ok (.iload_n 2, 1) := by decide +kernel
theorem dX2_takeNumber_34 : decode cX2_takeNumber 34 = .ok (.iconst 0, 1) := by decide +kernel
theorem dX2_takeNumber_35 : decode cX2_takeNumber 35 = .ok (.invokestatic 58, 3) := by decide +kernel
theorem dX2_takeNumber_38 : decode cX2_takeNumber 38 = .ok (.imul, 1) := by decide +kernel
theorem dX2_takeNumber_39 : decode cX2_takeNumber 39 = .ok (.iload 4, 2) := by decide +kernel
theorem dX2_takeNumber_41 : decode cX2_takeNumber 41 = .ok (.iadd, 1) := by decide +kernel
theorem dX2_takeNumber_42 : decode cX2_takeNumber 42 = .ok (.istore_n 2, 1) := by decide +kernel
theorem dX2_takeNumber_43 : decode cX2_takeNumber 43 = .ok (.aload_n 0, 1) := by decide +kernel
theorem dX2_takeNumber_44 : decode cX2_takeNumber 44 = .ok (.dup, 1) := by decide +kernel
theorem dX2_takeNumber_45 : decode cX2_takeNumber 45 = .ok (.getfield 31, 3) := by decide +kernel
theorem dX2_takeNumber_48 : decode cX2_takeNumber 48 = .ok (.iconst 1, 1) := by decide +kernel
theorem dX2_takeNumber_49 : decode cX2_takeNumber 49 = .ok (.iadd, 1) := by decide +kernel
theorem dX2_takeNumber_50 : decode cX2_takeNumber 50 = .ok (.putfield 31, 3) := by decide +kernel
theorem dX2_takeNumber_53 : decode cX2_takeNumber 53 = .ok (.iinc 3 1, 3) := by decide +kernel
theorem dX2_takeNumber_56 : decode cX2_takeNumber 56 = .ok (.goto (-52), 3) := by decide +kernel
theorem dX2_takeNumber_59 : decode cX2_takeNumber 59 = .ok (.iload_n 2, 1) := by decide +kernel
theorem dX2_takeNumber_60 : decode cX2_takeNumber 60 = .ok (.ireturn, 1) := by decide +kernel
set_option maxRecDepth 20000 in
theorem ggX2_take_X2_sign : GoodIn wsX2_take wsX2_sign := goodIn_r _ [6, 1, 7, 8, 9, 10, 11, 12] (by decide +kernel) (by decide +kernel)
set_option maxRecDepth 20000 in
theorem gX2_take_X2_sign : GoodIn wsX2_take (wsV RX2 42 RX2 yX2_sign wsX2_sign) := goodIn_app (goodIn_of _ (by decide +kernel)) ggX2_take_X2_sign
theorem dX2_take_0 : decode cX2_take 0 = .ok (.aload_n 0, 1) := by decide +kernel
theorem dX2_take_1 : decode cX2_take 1 = .ok (.invokevirtual 42, 3) := by decide +kernel
theorem dX2_take_4 : decode cX2_take 4 = .ok (.iload_n 1, 1) := by decide +kernel
theorem dX2_take_5 : decode cX2_take 5 = .ok (.if_icmp .ne 7, 3) := by decide +kernel
theorem dX2_take_8 : decode cX2_take 8 = .ok (.iconst 1, 1) := by decide +kernel
theorem dX2_take_9 : decode cX2_take 9 = .ok (.goto 4, 3) := by decide +kernel
theorem dX2_take_12 : decode cX2_take 12 = .ok (.iconst 0, 1) := by decide +kernel
theorem dX2_take_13 : decode cX2_take 13 = .ok (.istore_n 2, 1) := by decide +kernel
theorem dX2_take_14 : decode cX2_take 14 = .ok (.aload_n 0, 1) := by decide +kernel
theorem dX2_take_15 : decode cX2_take 15 = .ok (.dup, 1) := by decide +kernel
theorem dX2_take_16 : decode cX2_take 16 = .ok (.getfield 31, 3) := by decide +kernel
theorem dX2_take_19 : decode cX2_take 19 = .ok (.iload_n 2, 1) := by decide +kernel
theorem dX2_take_20 : decode cX2_take 20 = .ok (.ifCond .eq 7, 3) := by decide +kernel
theorem dX2_take_23 : decode cX2_take 23 = .ok (.iconst 1, 1) := by decide +kernel
theorem dX2_take_24 : decode cX2_take 24 = .ok (.goto 4, 3) := by decide +kernel
theorem dX2_take_27 : decode cX2_take 27 = .ok (.iconst 0, 1) := by decide +kernel
theorem dX2_take_28 : decode cX2_take 28 = .ok (.iadd, 1) := by decide +kernel
theorem dX2_take_29 : decode cX2_take 29 = .ok (.putfield 31, 3) := by decide +kernel
theorem dX2_take_32 : decode cX2_take 32 = .ok (.iload_n 2, 1) := by decide +kernel
theorem dX2_take_33 : decode cX2_take 33 = .ok (.ireturn, 1) := by decide +kernel
theorem dX2_sign_0 : decode cX2_sign 0 = .ok (.aload_n 0, 1) := by decide +kernel
theorem dX2_sign_1 : decode cX2_sign 1 = .ok (.getfield 31, 3) := by decide +kernel
theorem dX2_sign_4 : decode cX2_sign 4 = .ok (.ifCond .lt 38, 3) := by decide +kernel
theorem dX2_sign_7 : decode cX2_sign 7 = .ok (.aload_n 0, 1) := by decide +kernel
theorem dX2_sign_8 : decode cX2_sign 8 = .ok (.getfield 31, 3) := by decide +kernel
theorem dX2_sign_11 : decode cX2_sign 11 = .ok (.aload_n 0, 1) := by decide +kernel
theorem dX2_sign_12 : decode cX2_sign 12 = .ok (.getfield 24, 3) := by decide +kernel
theorem dX2_sign_15 : decode cX2_sign 15 = .ok (.if_icmp .ge 27, 3) := by decide +kernel
theorem dX2_sign_18 : decode cX2_sign 18 = .ok (.aload_n 0, 1) := by decide +kernel
theorem dX2_sign_19 : decode cX2_sign 19 = .ok (.getfield 31, 3) := by decide +kernel
theorem dX2_sign_22 : decode cX2_sign 22 = .ok (.aload_n 0, 1) := by decide +kernel
theorem dX2_sign_23 : decode cX2_sign 23 = .ok (.getfield 11, 3) := by decide +kernel
theorem dX2_sign_26 : decode cX2_sign 26 = .ok (.arraylength, 1) := by decide +kernel
theorem dX2_sign_27 : decode cX2_sign 27 = .ok (.if_icmp .ge 15, 3) := by decide +kernel
theorem dX2_sign_30 : decode cX2_sign 30 = .ok (.aload_n 0, 1) := by decide +kernel
theorem dX2_sign_31 : decode cX2_sign 31 = .ok (.getfield 11, 3) := by decide +kernel
theorem dX2_sign_34 : decode cX2_sign 34 = .ok (.aload_n 0, 1) := by decide +kernel
theorem dX2_sign_35 : decode cX2_sign 35 = .ok (.getfield 31, 3) := by decide +kernel
theorem dX2_sign_38 : decode cX2_sign 38 = .ok (.iaload, 1) := by decide +kernel
theorem dX2_sign_39 : decode cX2_sign 39 = .ok (.goto 4, 3) := by decide +kernel
theorem dX2_sign_42 : decode cX2_sign 42 = .ok (.iconst (-1), 1) := by decide +kernel
theorem dX2_sign_43 : decode cX2_sign 43 = .ok (.ireturn, 1) := by decide +kernel
set_option maxRecDepth 20000 in
theorem ggX3_init_X1_init : GoodIn wsX3_init wsX1_init := goodIn_r _ [17, 18, 2, 3, 19, 20, 21, 22, 23, 24, 25, 26, 27, 28, 29] (by decide +kernel) (by decide +kernel)
set_option maxRecDepth 20000 in
theorem gX3_init_X1_init : GoodIn wsX3_init (wsX1_init) := ggX3_init_X1_init
theorem dX3_init_0 : decode cX3_init 0 = .ok (.aload_n 0, 1) := by decide +kernel
theorem dX3_init_1 : decode cX3_init 1 = .ok (.invokespecial 3, 3) := by decide +kernel
theorem dX3_init_4 : decode cX3_init 4 = .ok (.aload_n 0, 1) := by decide +kernel
theorem dX3_init_5 : decode cX3_init 5 = .ok (.new 9, 3) := by decide +kernel
theorem dX3_init_8 : decode cX3_init 8 = .ok (.dup, 1) := by decide +kernel
theorem dX3_init_9 : decode cX3_init 9 = .ok (.bipush 6, 2) := by decide +kernel
theorem dX3_init_11 : decode cX3_init 11 = .ok (.invokespecial 13, 3) := by decide +kernel
theorem dX3_init_14 : decode cX3_init 14 = .ok (.putfield 16, 3) := by decide +kernel
theorem dX3_init_17 : decode cX3_init 17 = .ok (.aload_n 0, 1) := by decide +kernel
theorem dX3_init_18 : decode cX3_init 18 = .ok (.new 9, 3) := by decide +kernel
theorem dX3_init_21 : decode cX3_init 21 = .ok (.dup, 1) := by decide +kernel
theorem dX3_init_22 : decode cX3_init 22 = .ok (.iconst 4, 1) := by decide +kernel
theorem dX3_init_23 : decode cX3_init 23 = .ok (.invokespecial 13, 3) := by decide +kernel
theorem dX3_init_26 : decode cX3_init 26 = .ok (.putfield 20, 3) := by decide +kernel
theorem dX3_init_29 : decode cX3_init 29 = .ok (.aload_n 0, 1) := by decide +kernel
theorem dX3_init_30 : decode cX3_init 30 = .ok (.new 9, 3) := by decide +kernel
theorem dX3_init_33 : decode cX3_init 33 = .ok (.dup, 1) := by decide +kernel
theorem dX3_init_34 : decode cX3_init 34 = .ok (.bipush 8, 2) := by decide +kernel
theorem dX3_init_36 : decode cX3_init 36 = .ok (.invokespecial 13, 3) := by decide +kernel
theorem dX3_init_39 : decode cX3_init 39 = .ok (.putfield 23, 3) := by decide +kernel
theorem dX3_init_42 : decode cX3_init 42 = .ok (.aload_n 0, 1) := by decide +kernel
theorem dX3_init_43 : decode cX3_init 43 = .ok (.new 9, 3) := by decide +kernel
theorem dX3_init_46 : decode cX3_init 46 = .ok (.dup, 1) := by decide +kernel
theorem dX3_init_47 : decode cX3_init 47 = .ok (.bipush 8, 2) := by decide +kernel
theorem dX3_init_49 : decode cX3_init 49 = .ok (.invokespecial 13, 3) := by decide +kernel
theorem dX3_init_52 : decode cX3_init 52 = .ok (.putfield 26, 3) := by decide +kernel
theorem dX3_init_55 : decode cX3_init 55 = .ok (.aload_n 0, 1) := by decide +kernel
theorem dX3_init_56 : decode cX3_init 56 = .ok (.iconst 2, 1) := by decide +kernel
theorem dX3_init_57 : decode cX3_init 57 = .ok (.putfield 29, 3) := by decide +kernel
theorem dX3_init_60 : decode cX3_init 60 = .ok (.aload_n 0, 1) := by decide +kernel
theorem dX3_init_61 : decode cX3_init 61 = .ok (.iconst 1, 1) := by decide +kernel
theorem dX3_init_62 : decode cX3_init 62 = .ok (.putfield 33, 3) := by decide +kernel
theorem dX3_init_65 : decode cX3_init 65 = .ok (.aload_n 0, 1) := by decide +kernel
theorem dX3_init_66 : decode cX3_init 66 = .ok (.iconst 2, 1) := by decide +kernel
theorem dX3_init_67 : decode cX3_init 67 = .ok (.putfield 36, 3) := by decide +kernel
theorem dX3_init_70 : decode cX3_init 70 = .ok (.aload_n 0, 1) := by decide +kernel
theorem dX3_init_71 : decode cX3_init 71 = .ok (.aload_n 1, 1) := by decide +kernel
theorem dX3_init_72 : decode cX3_init 72 = .ok (.putfield 39, 3) := by decide +kernel
theorem dX3_init_75 : decode cX3_init 75 = .ok (.return_, 1) := by decide +kernel
set_option maxRecDepth 20000 in
theorem ggX3_become_X0_powerOf : GoodIn wsX3_become wsX0_powerOf := goodIn_r _ [7] (by decide +kernel) (by decide +kernel)
set_option maxRecDepth 20000 in
theorem gX3_become_X0_powerOf : GoodIn wsX3_become (va_wsS RX3 43 yX0_powerOf wsX0_powerOf) := goodIn_app (goodIn_of _ (by decide +kernel)) ggX3_become_X0_powerOf
theorem dX3_become_0 : decode cX3_become 0 = .ok (.aload_n 0, 1) := by decide +kernel
theorem dX3_become_1 : decode cX3_become 1 = .ok (.iload_n 1, 1) := by decide +kernel
theorem dX3_become_2 : decode cX3_become 2 = .ok (.putfield 29, 3) := by decide +kernel
theorem dX3_become_5 : decode cX3_become 5 = .ok (.aload_n 0, 1) := by decide +kernel
theorem dX3_become_6 : decode cX3_become 6 = .ok (.iload_n 2, 1) := by decide +kernel
theorem dX3_become_7 : decode cX3_become 7 = .ok (.putfield 33, 3) := by decide +kernel
theorem dX3_become_10 : decode cX3_become 10 = .ok (.aload_n 0, 1) := by decide +kernel
theorem dX3_become_11 : decode cX3_become 11 = .ok (.iload_n 1, 1) := by decide +kernel
theorem dX3_become_12 : decode cX3_become 12 = .ok (.iload_n 2, 1) := by decide +kernel
theorem dX3_become_13 : decode cX3_become 13 = .ok (.invokestatic 43, 3) := by decide +kernel
theorem dX3_become_16 : decode cX3_become 16 = .ok (.putfield 36, 3) := by decide +kernel
theorem dX3_become_19 : decode cX3_become 19 = .ok (.return_, 1) := by decide +kernel
set_option maxRecDepth 20000 in
theorem ggX3_copyFrom_X3_become : GoodIn wsX3_copyFrom wsX3_become := goodIn_r _ [13, 1, 2, 14, 15, 16, 17, 18, 30, 31, 32, 33, 34, 35, 36, 37, 38, 39] (by decide +kernel) (by decide +kernel)
set_option maxRecDepth 20000 in
theorem gX3_copyFrom_X3_become : GoodIn wsX3_copyFrom (wsV RX3 49 RX3 yX3_become wsX3_become) := goodIn_app (goodIn_of _ (by decide +kernel)) ggX3_copyFrom_X3_become
set_option maxRecDepth 20000 in
theorem ggX3_copyFrom_X1_copyFrom : GoodIn wsX3_copyFrom wsX1_copyFrom := goodIn_r _ [23, 24, 25, 26, 27, 28, 29, 40, 41] (by decide +kernel) (by decide +kernel)
set_option maxRecDepth 20000 in
theorem gX3_copyFrom_X1_copyFrom : GoodIn wsX3_copyFrom (wsV RX3 59 RX1 yX1_copyFrom wsX1_copyFrom) := goodIn_app (goodIn_of _ (by decide +kernel)) ggX3_copyFrom_X1_copyFrom
theorem dX3_copyFrom_0 : decode cX3_copyFrom 0 = .ok (.aload_n 1, 1) := by decide +kernel
theorem dX3_copyFrom_1 : decode cX3_copyFrom 1 = .ok (.ifnonnull 4, 3) := by decide +kernel
theorem dX3_copyFrom_4 : decode cX3_copyFrom 4 = .ok (.return_, 1) := by decide +kernel
theorem dX3_copyFrom_5 : decode cX3_copyFrom 5 = .ok (.aload_n 0, 1) := by decide +kernel
theorem dX3_copyFrom_6 : decode cX3_copyFrom 6 = .ok (.aload_n 1, 1) := by decide +kernel
theorem dX3_copyFrom_7 : decode cX3_copyFrom 7 = .ok (.getfield 29, 3) := by decide +kernel
theorem dX3_copyFrom_10 : decode cX3_copyFrom 10 = .ok (.aload_n 1, 1) := by decide +kernel
theorem dX3_copyFrom_11 : decode cX3_copyFrom 11 = .ok (.getfield 33, 3) := by decide +kernel
theorem dX3_copyFrom_14 : decode cX3_copyFrom 14 = .ok (.invokevirtual 49, 3) := by decide +kernel
theorem dX3_copyFrom_17 : decode cX3_copyFrom 17 = .ok (.aload_n 0, 1) := by decide +kernel
theorem dX3_copyFrom_18 : decode cX3_copyFrom 18 = .ok (.aload_n 1, 1) := by decide +kernel
theorem dX3_copyFrom_19 : decode cX3_copyFrom 19 = .ok (.getfield 53, 3) := by decide +kernel
theorem dX3_copyFrom_22 : decode cX3_copyFrom 22 = .ok (.putfield 53, 3) := by decide +kernel
theorem dX3_copyFrom_25 : decode cX3_copyFrom 25 = .ok (.aload_n 0, 1) := by decide +kernel
theorem dX3_copyFrom_26 : decode cX3_copyFrom 26 = .ok (.aload_n 1, 1) := by decide +kernel
theorem dX3_copyFrom_27 : decode cX3_copyFrom 27 = .ok (.getfield 56, 3) := by decide +kernel
theorem dX3_copyFrom_30 : decode cX3_copyFrom 30 = .ok (.putfield 56, 3) := by decide +kernel
theorem dX3_copyFrom_33 : decode cX3_copyFrom 33 = .ok (.aload_n 0, 1) := by decide +kernel
theorem dX3_copyFrom_34 : decode cX3_copyFrom 34 = .ok (.getfield 16, 3) := by decide +kernel
theorem dX3_copyFrom_37 : decode cX3_copyFrom 37 = .ok (.aload_n 1, 1) := by decide +kernel
theorem dX3_copyFrom_38 : decode cX3_copyFrom 38 = .ok (.getfield 16, 3) := by decide +kernel
theorem dX3_copyFrom_41 : decode cX3_copyFrom 41 = .ok (.invokevirtual 59, 3) := by decide +kernel
theorem dX3_copyFrom_44 : decode cX3_copyFrom 44 = .ok (.aload_n 0, 1) := by decide +kernel
theorem dX3_copyFrom_45 : decode cX3_copyFrom 45 = .ok (.getfield 20, 3) := by decide +kernel
theorem dX3_copyFrom_48 : decode cX3_copyFrom 48 = .ok (.aload_n 1, 1) := by decide +kernel
theorem dX3_copyFrom_49 : decode cX3_copyFrom 49 = .ok (.getfield 20, 3) := by decide +kernel
theorem dX3_copyFrom_52 : decode cX3_copyFrom 52 = .ok (.invokevirtual 59, 3) := by decide +kernel
theorem dX3_copyFrom_55 : decode cX3_copyFrom 55 = .ok (.aload_n 0, 1) := by decide +kernel
theorem dX3_copyFrom_56 : decode cX3_copyFrom 56 = .ok (.getfield 23, 3) := by decide +kernel
theorem dX3_copyFrom_59 : decode cX3_copyFrom 59 = .ok (.aload_n 1, 1) := by decide +kernel
theorem dX3_copyFrom_60 : decode cX3_copyFrom 60 = .ok (.getfield 23, 3) := by decide +kernel
theorem dX3_copyFrom_63 : decode cX3_copyFrom 63 = .ok (.invokevirtual 59, 3) := by decide +kernel
theorem dX3_copyFrom_66 : decode cX3_copyFrom 66 = .ok (.aload_n 0, 1) := by decide +kernel
theorem dX3_copyFrom_67 : decode cX3_copyFrom 67 = .ok (.getfield 26, 3) := by decide +kernel
theorem dX3_copyFrom_70 : decode cX3_copyFrom 70 = .ok (.aload_n 1, 1) := by decide +kernel
theorem dX3_copyFrom_71 : decode cX3_copyFrom 71 = .ok (.getfield 26, 3) := by decide +kernel
theorem dX3_copyFrom_74 : decode cX3_copyFrom 74 = .ok (.invokevirtual 59, 3) := by decide +kernel
theorem dX3_copyFrom_77 : decode cX3_copyFrom 77 = .ok (.return_, 1) := by decide +kernel
set_option maxRecDepth 20000 in
theorem ggX3_happen_X3_nextPrime : GoodIn wsX3_happen wsX3_nextPrime := goodIn_r _ [13, 2, 37, 38, 39, 40, 41, 42, 43, 44, 45, 46] (by decide +kernel) (by decide +kernel)
set_option maxRecDepth 20000 in
theorem gX3_happen_X3_nextPrime : GoodIn wsX3_happen (wsV RX3 63 RX3 yX3_nextPrime wsX3_nextPrime) := goodIn_app (goodIn_of _ (by decide +kernel)) ggX3_happen_X3_nextPrime
set_option maxRecDepth 20000 in
theorem ggX3_happen_X3_become : GoodIn wsX3_happen wsX3_become := goodIn_r _ [17, 2, 1, 18, 19, 20, 21, 22, 37, 38, 39, 40, 41, 42, 43, 44, 45, 46] (by decide +kernel) (by decide +kernel)
set_option maxRecDepth 20000 in
theorem gX3_happen_X3_become : GoodIn wsX3_happen (wsV RX3 49 RX3 yX3_become wsX3_become) := goodIn_app (goodIn_of _ (by decide +kernel)) ggX3_happen_X3_become
set_option maxRecDepth 20000 in
theorem ggX3_happen_X1_remove : GoodIn wsX3_happen wsX1_remove := goodIn_r _ [27, 28, 29, 30, 31, 32, 33, 34, 35, 36, 47, 48] (by decide +kernel) (by decide +kernel)
set_option maxRecDepth 20000 in
theorem gX3_happen_X1_remove : GoodIn wsX3_happen (wsV RX3 72 RX1 yX1_remove wsX1_remove) := goodIn_app (goodIn_of _ (by decide +kernel)) ggX3_happen_X1_remove
theorem dX3_happen_0 : decode cX3_happen 0 = .ok (.iload_n 1, 1) := by decide +kernel
theorem dX3_happen_1 : decode cX3_happen 1 = .ok (.tableswitch 72 0 2 #[27, 42, 54], 27) := by decide +kernel
theorem dX3_happen_28 : decode cX3_happen 28 = .ok (.aload_n 0, 1) := by decide +kernel
theorem dX3_happen_29 : decode cX3_happen 29 = .ok (.aload_n 0, 1) := by decide +kernel
theorem dX3_happen_30 : decode cX3_happen 30 = .ok (.invokevirtual 63, 3) := by decide +kernel
theorem dX3_happen_33 : decode cX3_happen 33 = .ok (.aload_n 0, 1) := by decide +kernel
theorem dX3_happen_34 : decode cX3_happen 34 = .ok (.getfield 33, 3) := by decide +kernel
theorem dX3_happen_37 : decode cX3_happen 37 = .ok (.invokevirtual 49, 3) := by decide +kernel
theorem dX3_happen_40 : decode cX3_happen 40 = .ok (.goto 41, 3) := by decide +kernel
theorem dX3_happen_43 : decode cX3_happen 43 = .ok (.aload_n 0, 1) := by decide +kernel
theorem dX3_happen_44 : decode cX3_happen 44 = .ok (.aload_n 0, 1) := by decide +kernel
theorem dX3_happen_45 : decode cX3_happen 45 = .ok (.getfield 29, 3) := by decide +kernel
theorem dX3_happen_48 : decode cX3_happen 48 = .ok (.iload_n 2, 1) := by decide +kernel
theorem dX3_happen_49 : decode cX3_happen 49 = .ok (.invokevirtual 49, 3) := by decide +kernel
theorem dX3_happen_52 : decode cX3_happen 52 = .ok (.goto 29, 3) := by decide +kernel
theorem dX3_happen_55 : decode cX3_happen 55 = .ok (.aload_n 0, 1) := by decide +kernel
theorem dX3_happen_56 : decode cX3_happen 56 = .ok (.bipush 127, 2) := by decide +kernel
theorem dX3_happen_58 : decode cX3_happen 58 = .ok (.aload_n 0, 1) := by decide +kernel
theorem dX3_happen_59 : decode cX3_happen 59 = .ok (.getfield 53, 3) := by decide +kernel
theorem dX3_happen_62 : decode cX3_happen 62 = .ok (.iload_n 2, 1) := by decide +kernel
theorem dX3_happen_63 : decode cX3_happen 63 = .ok (.iadd, 1) := by decide +kernel
theorem dX3_happen_64 : decode cX3_happen 64 = .ok (.invokestatic 67, 3) := by decide +kernel
theorem dX3_happen_67 : decode cX3_happen 67 = .ok (.putfield 53, 3) := by decide +kernel
theorem dX3_happen_70 : decode cX3_happen 70 = .ok (.goto 11, 3) := by decide +kernel
theorem dX3_happen_73 : decode cX3_happen 73 = .ok (.aload_n 0, 1) := by decide +kernel
theorem dX3_happen_74 : decode cX3_happen 74 = .ok (.getfield 16, 3) := by decide +kernel
theorem dX3_happen_77 : decode cX3_happen 77 = .ok (.iload_n 2, 1) := by decide +kernel
theorem dX3_happen_78 : decode cX3_happen 78 = .ok (.invokevirtual 72, 3) := by decide +kernel
theorem dX3_happen_81 : decode cX3_happen 81 = .ok (.return_, 1) := by decide +kernel
theorem dX3_nextPrime_0 : decode cX3_nextPrime 0 = .ok (.aload_n 0, 1) := by decide +kernel
theorem dX3_nextPrime_1 : decode cX3_nextPrime 1 = .ok (.getfield 29, 3) := by decide +kernel
theorem dX3_nextPrime_4 : decode cX3_nextPrime 4 = .ok (.tableswitch 39 2 5 #[32, 34, 39, 36], 32) := by decide +kernel
theorem dX3_nextPrime_36 : decode cX3_nextPrime 36 = .ok (.iconst 3, 1) := by decide +kernel
theorem dX3_nextPrime_37 : decode cX3_nextPrime 37 = .ok (.ireturn, 1) := by decide +kernel
theorem dX3_nextPrime_38 : decode cX3_nextPrime 38 = .ok (.iconst 5, 1) := by decide +kernel
theorem dX3_nextPrime_39 : decode cX3_nextPrime 39 = .ok (.ireturn, 1) := by decide +kernel
theorem dX3_nextPrime_40 : decode cX3_nextPrime 40 = .ok (.bipush 7, 2) := by decide +kernel
theorem dX3_nextPrime_42 : decode cX3_nextPrime 42 = .ok (.ireturn, 1) := by decide +kernel
theorem dX3_nextPrime_43 : decode cX3_nextPrime 43 = .ok (.iconst 2, 1) := by decide +kernel
theorem dX3_nextPrime_44 : decode cX3_nextPrime 44 = .ok (.ireturn, 1) := by decide +kernel
set_option maxRecDepth 20000 in
theorem ggX3_remainder_X5_remainder : GoodIn wsX3_remainder wsX5_remainder := goodIn_r _ [7, 8, 9, 10, 6, 11, 12, 23] (by decide +kernel) (by decide +kernel)
set_option maxRecDepth 20000 in
theorem gX3_remainder_X5_remainder : GoodIn wsX3_remainder (wsV RX3 75 RX5 yX5_remainder wsX5_remainder) := goodIn_app (goodIn_of _ (by decide +kernel)) ggX3_remainder_X5_remainder
theorem dX3_remainder_0 : decode cX3_remainder 0 = .ok (.aload_n 0, 1) := by decide +kernel
theorem dX3_remainder_1 : decode cX3_remainder 1 = .ok (.getfield 39, 3) := by decide +kernel
theorem dX3_remainder_4 : decode cX3_remainder 4 = .ok (.ifnonnull 7, 3) := by decide +kernel
theorem dX3_remainder_7 : decode cX3_remainder 7 = .ok (.iconst 0, 1) := by decide +kernel
theorem dX3_remainder_8 : decode cX3_remainder 8 = .ok (.goto 16, 3) := by decide +kernel
theorem dX3_remainder_11 : decode cX3_remainder 11 = .ok (.aload_n 0, 1) := by decide +kernel
theorem dX3_remainder_12 : decode cX3_remainder 12 = .ok (.getfield 39, 3) := by decide +kernel
theorem dX3_remainder_15 : decode cX3_remainder 15 = .ok (.iload_n 1, 1) := by decide +kernel
theorem dX3_remainder_16 : decode cX3_remainder 16 = .ok (.iload_n 2, 1) := by decide +kernel
theorem dX3_remainder_17 : decode cX3_remainder 17 = .ok (.aload_n 0, 1) := by decide +kernel
theorem dX3_remainder_18 : decode cX3_remainder 18 = .ok (.getfield 36, 3) := by decide +kernel
theorem dX3_remainder_21 : decode cX3_remainder 21 = .ok (.invokevirtual 75, 3) := by decide +kernel
theorem dX3_remainder_24 : decode cX3_remainder 24 = .ok (.ireturn, 1) := by decide +kernel
set_option maxRecDepth 20000 in
theorem ggX3_tell_X5_remainder : GoodIn wsX3_tell wsX5_remainder := goodIn_r _ [8, 9, 10, 11, 7, 12, 13, 38] (by decide +kernel) (by decide +kernel)
set_option maxRecDepth 20000 in
theorem gX3_tell_X5_remainder : GoodIn wsX3_tell (wsV RX3 75 RX5 yX5_remainder wsX5_remainder) := goodIn_app (goodIn_of _ (by decide +kernel)) ggX3_tell_X5_remainder
set_option maxRecDepth 20000 in
theorem ggX3_tell_X5_lucas : GoodIn wsX3_tell wsX5_lucas := goodIn_r _ [17, 9, 10, 11, 7, 12, 13, 38] (by decide +kernel) (by decide +kernel)
set_option maxRecDepth 20000 in
theorem gX3_tell_X5_lucas : GoodIn wsX3_tell (wsV RX3 81 RX5 yX5_lucas wsX5_lucas) := goodIn_app (goodIn_of _ (by decide +kernel)) ggX3_tell_X5_lucas
set_option maxRecDepth 20000 in
theorem ggX3_tell_X0_carries : GoodIn wsX3_tell wsX0_carries := goodIn_r _ [21] (by decide +kernel) (by decide +kernel)
set_option maxRecDepth 20000 in
theorem gX3_tell_X0_carries : GoodIn wsX3_tell (va_wsS RX3 84 yX0_carries wsX0_carries) := goodIn_app (goodIn_of _ (by decide +kernel)) ggX3_tell_X0_carries
set_option maxRecDepth 20000 in
theorem ggX3_tell_X0_legendre : GoodIn wsX3_tell wsX0_legendre := goodIn_r _ [24] (by decide +kernel) (by decide +kernel)
set_option maxRecDepth 20000 in
theorem gX3_tell_X0_legendre : GoodIn wsX3_tell (va_wsS RX3 87 yX0_legendre wsX0_legendre) := goodIn_app (goodIn_of _ (by decide +kernel)) ggX3_tell_X0_legendre
set_option maxRecDepth 20000 in
theorem ggX3_tell_X0_isCovered : GoodIn wsX3_tell wsX0_isCovered := goodIn_r _ [27] (by decide +kernel) (by decide +kernel)
set_option maxRecDepth 20000 in
theorem gX3_tell_X0_isCovered : GoodIn wsX3_tell (va_wsS RX3 90 yX0_isCovered wsX0_isCovered) := goodIn_app (goodIn_of _ (by decide +kernel)) ggX3_tell_X0_isCovered
theorem dX3_tell_0 : decode cX3_tell 0 = .ok (.aload_n 0, 1) := by decide +kernel
theorem dX3_tell_1 : decode cX3_tell 1 = .ok (.getfield 39, 3) := by decide +kernel
theorem dX3_tell_4 : decode cX3_tell 4 = .ok (.ifnonnull 5, 3) := by decide +kernel
theorem dX3_tell_7 : decode cX3_tell 7 = .ok (.iconst 0, 1) := by decide +kernel
theorem dX3_tell_8 : decode cX3_tell 8 = .ok (.ireturn, 1) := by decide +kernel
theorem dX3_tell_9 : decode cX3_tell 9 = .ok (.iload_n 1, 1) := by decide +kernel
theorem dX3_tell_10 : decode cX3_tell 10 = .ok (.tableswitch 78 0 3 #[30, 44, 58, 68], 30) := by decide +kernel
theorem dX3_tell_40 : decode cX3_tell 40 = .ok (.aload_n 0, 1) := by decide +kernel
theorem dX3_tell_41 : decode cX3_tell 41 = .ok (.getfield 39, 3) := by decide +kernel
theorem dX3_tell_44 : decode cX3_tell 44 = .ok (.iload_n 2, 1) := by decide +kernel
theorem dX3_tell_45 : decode cX3_tell 45 = .ok (.iload_n 3, 1) := by decide +kernel
theorem dX3_tell_46 : decode cX3_tell 46 = .ok (.aload_n 0, 1) := by decide +kernel
theorem dX3_tell_47 : decode cX3_tell 47 = .ok (.getfield 36, 3) := by decide +kernel
theorem dX3_tell_50 : decode cX3_tell 50 = .ok (.invokevirtual 75, 3) := by decide +kernel
theorem dX3_tell_53 : decode cX3_tell 53 = .ok (.ireturn, 1) := by decide +kernel
theorem dX3_tell_54 : decode cX3_tell 54 = .ok (.aload_n 0, 1) := by decide +kernel
theorem dX3_tell_55 : decode cX3_tell 55 = .ok (.getfield 39, 3) := by decide +kernel
theorem dX3_tell_58 : decode cX3_tell 58 = .ok (.aload_n 0, 1) := by decide +kernel
theorem dX3_tell_59 : decode cX3_tell 59 = .ok (.getfield 29, 3) := by decide +kernel
theorem dX3_tell_62 : decode cX3_tell 62 = .ok (.iload_n 2, 1) := by decide +kernel
theorem dX3_tell_63 : decode cX3_tell 63 = .ok (.iload_n 3, 1) := by decide +kernel
theorem dX3_tell_64 : decode cX3_tell 64 = .ok (.invokevirtual 81, 3) := by decide +kernel
theorem dX3_tell_67 : decode cX3_tell 67 = .ok (.ireturn, 1) := by decide +kernel
theorem dX3_tell_68 : decode cX3_tell 68 = .ok (.aload_n 0, 1) := by decide +kernel
theorem dX3_tell_69 : decode cX3_tell 69 = .ok (.getfield 29, 3) := by decide +kernel
theorem dX3_tell_72 : decode cX3_tell 72 = .ok (.iload_n 2, 1) := by decide +kernel
theorem dX3_tell_73 : decode cX3_tell 73 = .ok (.iload_n 3, 1) := by decide +kernel
theorem dX3_tell_74 : decode cX3_tell 74 = .ok (.invokestatic 84, 3) := by decide +kernel
theorem dX3_tell_77 : decode cX3_tell 77 = .ok (.ireturn, 1) := by decide +kernel
theorem dX3_tell_78 : decode cX3_tell 78 = .ok (.aload_n 0, 1) := by decide +kernel
theorem dX3_tell_79 : decode cX3_tell 79 = .ok (.getfield 29, 3) := by decide +kernel
theorem dX3_tell_82 : decode cX3_tell 82 = .ok (.iload_n 2, 1) := by decide +kernel
theorem dX3_tell_83 : decode cX3_tell 83 = .ok (.iload_n 3, 1) := by decide +kernel
theorem dX3_tell_84 : decode cX3_tell 84 = .ok (.invokestatic 87, 3) := by decide +kernel
theorem dX3_tell_87 : decode cX3_tell 87 = .ok (.ireturn, 1) := by decide +kernel
theorem dX3_tell_88 : decode cX3_tell 88 = .ok (.aload_n 0, 1) := by decide +kernel
theorem dX3_tell_89 : decode cX3_tell 89 = .ok (.getfield 29, 3) := by decide +kernel
theorem dX3_tell_92 : decode cX3_tell 92 = .ok (.iload_n 2, 1) := by decide +kernel
theorem dX3_tell_93 : decode cX3_tell 93 = .ok (.iload_n 3, 1) := by decide +kernel
theorem dX3_tell_94 : decode cX3_tell 94 = .ok (.invokestatic 90, 3) := by decide +kernel
theorem dX3_tell_97 : decode cX3_tell 97 = .ok (.ifCond .eq 7, 3) := by decide +kernel
theorem dX3_tell_100 : decode cX3_tell 100 = .ok (.iconst 1, 1) := by decide +kernel
theorem dX3_tell_101 : decode cX3_tell 101 = .ok (.goto 4, 3) := by decide +kernel
theorem dX3_tell_104 : decode cX3_tell 104 = .ok (.iconst 0, 1) := by decide +kernel
theorem dX3_tell_105 : decode cX3_tell 105 = .ok (.ireturn, 1) := by decide +kernel
set_option maxRecDepth 20000 in
theorem ggX3_isMarked_X6_isPlace : GoodIn wsX3_isMarked wsX6_isPlace := goodIn_r _ [4, 5, 6, 3, 7, 8, 9, 10] (by decide +kernel) (by decide +kernel)
set_option maxRecDepth 20000 in
theorem gX3_isMarked_X6_isPlace_n94 : GoodIn wsX3_isMarked (wsX6_isPlace) := ggX3_isMarked_X6_isPlace
set_option maxRecDepth 20000 in
theorem ggX3_isMarked_X1_number : GoodIn wsX3_isMarked wsX1_number := goodIn_r _ [15, 16, 17, 9, 3, 10, 60, 61] (by decide +kernel) (by decide +kernel)
set_option maxRecDepth 20000 in
theorem gX3_isMarked_X1_number : GoodIn wsX3_isMarked (wsV RX3 101 RX1 yX1_number wsX1_number) := goodIn_app (goodIn_of _ (by decide +kernel)) ggX3_isMarked_X1_number
set_option maxRecDepth 20000 in
theorem ggX3_isMarked_X3_tell : GoodIn wsX3_isMarked wsX3_tell := goodIn_r _ [22, 23, 24, 25, 26, 27, 28, 29, 30, 31, 32, 33, 34, 35, 36, 37, 38, 39, 40, 41, 42, 43, 44, 45, 46, 47, 48, 49, 50, 51, 52, 53, 54, 55, 56, 57, 58, 59, 62] (by decide +kernel) (by decide +kernel)
set_option maxRecDepth 20000 in
theorem gX3_isMarked_X3_tell : GoodIn wsX3_isMarked (wsV RX3 104 RX3 yX3_tell wsX3_tell) := goodIn_app (goodIn_of _ (by decide +kernel)) ggX3_isMarked_X3_tell
theorem dX3_isMarked_0 : decode cX3_isMarked 0 = .ok (.iload_n 1, 1) := by decide +kernel
theorem dX3_isMarked_1 : decode cX3_isMarked 1 = .ok (.iload_n 2, 1) := by decide +kernel
theorem dX3_isMarked_2 : decode cX3_isMarked 2 = .ok (.invokestatic 94, 3) := by decide +kernel
theorem dX3_isMarked_5 : decode cX3_isMarked 5 = .ok (.ifCond .ne 5, 3) := by decide +kernel
theorem dX3_isMarked_8 : decode cX3_isMarked 8 = .ok (.iconst 0, 1) := by decide +kernel
theorem dX3_isMarked_9 : decode cX3_isMarked 9 = .ok (.ireturn, 1) := by decide +kernel
theorem dX3_isMarked_10 : decode cX3_isMarked 10 = .ok (.iconst 0, 1) := by decide +kernel
theorem dX3_isMarked_11 : decode cX3_isMarked 11 = .ok (.istore_n 3, 1) := by decide +kernel
theorem dX3_isMarked_12 : decode cX3_isMarked 12 = .ok (.iload_n 3, 1) := by decide +kernel
theorem dX3_isMarked_13 : decode cX3_isMarked 13 = .ok (.aload_n 0, 1) := by decide +kernel
theorem dX3_isMarked_14 : decode cX3_isMarked 14 = .ok (.getfield 16, 3) := by decide +kernel
theorem dX3_isMarked_17 : decode cX3_isMarked 17 = .ok (.getfield 98, 3) := by decide +kernel
theorem dX3_isMarked_20 : decode cX3_isMarked 20 = .ok (.if_icmp .ge 38, 3) := by decide +kernel
theorem dX3_isMarked_23 : decode cX3_isMarked 23 = .ok (.aload_n 0, 1) := by decide +kernel
theorem dX3_isMarked_24 : decode cX3_isMarked 24 = .ok (.aload_n 0, 1) := by decide +kernel
theorem dX3_isMarked_25 : decode cX3_isMarked 25 = .ok (.getfield 16, 3) := by decide +kernel
theorem dX3_isMarked_28 : decode cX3_isMarked 28 = .ok (.iload_n 3, 1) := by decide +kernel
theorem dX3_isMarked_29 : decode cX3_isMarked 29 = .ok (.iconst 0, 1) := by decide +kernel
theorem dX3_isMarked_30 : decode cX3_isMarked 30 = .ok (.invokevirtual 101, 3) := by decide +kernel
theorem dX3_isMarked_33 : decode cX3_isMarked 33 = .ok (.iload_n 1, 1) := by decide +kernel
theorem dX3_isMarked_34 : decode cX3_isMarked 34 = .ok (.iload_n 2, 1) := by decide +kernel
theorem dX3_isMarked_35 : decode cX3_isMarked 35 = .ok (.invokevirtual 104, 3) := by decide +kernel
theorem dX3_isMarked_38 : decode cX3_isMarked 38 = .ok (.aload_n 0, 1) := by decide +kernel
theorem dX3_isMarked_39 : decode cX3_isMarked 39 = .ok (.getfield 16, 3) := by decide +kernel
theorem dX3_isMarked_42 : decode cX3_isMarked 42 = .ok (.iload_n 3, 1) := by decide +kernel
theorem dX3_isMarked_43 : decode cX3_isMarked 43 = .ok (.iconst 1, 1) := by decide +kernel
theorem dX3_isMarked_44 : decode cX3_isMarked 44 = .ok (.invokevirtual 101, 3) := by decide +kernel
theorem dX3_isMarked_47 : decode cX3_isMarked 47 = .ok (.if_icmp .ne 5, 3) := by decide +kernel
theorem dX3_isMarked_50 : decode cX3_isMarked 50 = .ok (.iconst 1, 1) := by decide +kernel
theorem dX3_isMarked_51 : decode cX3_isMarked 51 = .ok (.ireturn, 1) := by decide +kernel
theorem dX3_isMarked_52 : decode cX3_isMarked 52 = .ok (.iinc 3 1, 3) := by decide +kernel
theorem dX3_isMarked_55 : decode cX3_isMarked 55 = .ok (.goto (-43), 3) := by decide +kernel
theorem dX3_isMarked_58 : decode cX3_isMarked 58 = .ok (.iconst 0, 1) := by decide +kernel
theorem dX3_isMarked_59 : decode cX3_isMarked 59 = .ok (.ireturn, 1) := by decide +kernel
set_option maxRecDepth 20000 in
theorem ggX3_pictureRow_X3_isMarked : GoodIn wsX3_pictureRow wsX3_isMarked := goodIn_r _ [7, 8, 9, 10, 11, 12, 13, 14, 15, 16, 17, 18, 19, 20, 21, 22, 23, 24, 25, 26, 27, 6, 28, 29, 30, 31, 32, 33, 34, 35, 36, 37, 38, 39, 40, 41, 42, 43, 44, 45, 46, 47, 48, 49, 50, 51, 52, 53, 54, 55, 56, 57, 58, 59, 60, 61, 62, 63, 64, 65, 66, 67, 68] (by decide +kernel) (by decide +kernel)
set_option maxRecDepth 20000 in
theorem gX3_pictureRow_X3_isMarked : GoodIn wsX3_pictureRow (wsV RX3 107 RX3 yX3_isMarked wsX3_isMarked) := goodIn_app (goodIn_of _ (by decide +kernel)) ggX3_pictureRow_X3_isMarked
theorem dX3_pictureRow_0 : decode cX3_pictureRow 0 = .ok (.iconst 0, 1) := by decide +kernel
theorem dX3_pictureRow_1 : decode cX3_pictureRow 1 = .ok (.istore_n 2, 1) := by decide +kernel
theorem dX3_pictureRow_2 : decode cX3_pictureRow 2 = .ok (.iconst 0, 1) := by decide +kernel
theorem dX3_pictureRow_3 : decode cX3_pictureRow 3 = .ok (.istore_n 3, 1) := by decide +kernel
theorem dX3_pictureRow_4 : decode cX3_pictureRow 4 = .ok (.iload_n 3, 1) := by decide +kernel
theorem dX3_pictureRow_5 : decode cX3_pictureRow 5 = .ok (.bipush 8, 2) := by decide +kernel
theorem dX3_pictureRow_7 : decode cX3_pictureRow 7 = .ok (.if_icmp .ge 34, 3) := by decide +kernel
theorem dX3_pictureRow_10 : decode cX3_pictureRow 10 = .ok (.aload_n 0, 1) := by decide +kernel
theorem dX3_pictureRow_11 : decode cX3_pictureRow 11 = .ok (.aload_n 0, 1) := by decide +kernel
theorem dX3_pictureRow_12 : decode cX3_pictureRow 12 = .ok (.getfield 53, 3) := by decide +kernel
theorem dX3_pictureRow_15 : decode cX3_pictureRow 15 = .ok (.iload_n 1, 1) := by decide +kernel
theorem dX3_pictureRow_16 : decode cX3_pictureRow 16 = .ok (.iadd, 1) := by decide +kernel
theorem dX3_pictureRow_17 : decode cX3_pictureRow 17 = .ok (.aload_n 0, 1) := by decide +kernel
theorem dX3_pictureRow_18 : decode cX3_pictureRow 18 = .ok (.getfield 56, 3) := by decide +kernel
theorem dX3_pictureRow_21 : decode cX3_pictureRow 21 = .ok (.iload_n 3, 1) := by decide +kernel
theorem dX3_pictureRow_22 : decode cX3_pictureRow 22 = .ok (.iadd, 1) := by decide +kernel
theorem dX3_pictureRow_23 : decode cX3_pictureRow 23 = .ok (.invokevirtual 107, 3) := by decide +kernel
theorem dX3_pictureRow_26 : decode cX3_pictureRow 26 = .ok (.ifCond .eq 9, 3) := by decide +kernel
theorem dX3_pictureRow_29 : decode cX3_pictureRow 29 = .ok (.iload_n 2, 1) := by decide +kernel
theorem dX3_pictureRow_30 : decode cX3_pictureRow 30 = .ok (.iconst 1, 1) := by decide +kernel
theorem dX3_pictureRow_31 : decode cX3_pictureRow 31 = .ok (.iload_n 3, 1) := by decide +kernel
theorem dX3_pictureRow_32 : decode cX3_pictureRow 32 = .ok (.ishl, 1) := by decide +kernel
theorem dX3_pictureRow_33 : decode cX3_pictureRow 33 = .ok (.ior, 1) := by decide +kernel
theorem dX3_pictureRow_34 : decode cX3_pictureRow 34 = .ok (.istore_n 2, 1) := by decide +kernel
theorem dX3_pictureRow_35 : decode cX3_pictureRow 35 = .ok (.iinc 3 1, 3) := by decide +kernel
theorem dX3_pictureRow_38 : decode cX3_pictureRow 38 = .ok (.goto (-34), 3) := by decide +kernel
theorem dX3_pictureRow_41 : decode cX3_pictureRow 41 = .ok (.iload_n 2, 1) := by decide +kernel
theorem dX3_pictureRow_42 : decode cX3_pictureRow 42 = .ok (.ireturn, 1) := by decide +kernel
set_option maxRecDepth 20000 in
theorem ggX3_markedInWindow_X3_pictureRow : GoodIn wsX3_markedInWindow wsX3_pictureRow := goodIn_r _ [5, 6, 7, 8, 9, 10, 4, 11, 12, 13, 14, 15, 16, 17, 18, 19, 20, 21, 22, 23, 24, 25, 26, 27, 28, 29, 30, 31, 32, 33, 34, 35, 36, 37, 38, 39, 40, 41, 42, 43, 44, 45, 46, 47, 48, 49, 50, 51, 52, 53, 54, 55, 56, 57, 58, 59, 67, 68, 69, 70, 71, 72, 73, 74, 75, 76, 77, 78, 79] (by decide +kernel) (by decide +kernel)
set_option maxRecDepth 20000 in
theorem gX3_markedInWindow_X3_pictureRow : GoodIn wsX3_markedInWindow (wsV RX3 110 RX3 yX3_pictureRow wsX3_pictureRow) := goodIn_app (goodIn_of _ (by decide +kernel)) ggX3_markedInWindow_X3_pictureRow
set_option maxRecDepth 20000 in
theorem ggX3_markedInWindow_J6_bitCount_0f7a4 : GoodIn wsX3_markedInWindow wsJ6_bitCount_0f7a4 := goodIn_r _ [63, 64, 65, 66] (by decide +kernel) (by decide +kernel)
set_option maxRecDepth 20000 in
theorem gX3_markedInWindow_J6_bitCount_0f7a4 : GoodIn wsX3_markedInWindow (va_wsS RX3 114 yJ6_bitCount_0f7a4 wsJ6_bitCount_0f7a4) := goodIn_app (goodIn_of _ (by decide +kernel)) ggX3_markedInWindow_J6_bitCount_0f7a4
theorem dX3_markedInWindow_0 : decode cX3_markedInWindow 0 = .ok (.iconst 0, 1) := by decide +kernel
theorem dX3_markedInWindow_1 : decode cX3_markedInWindow 1 = .ok (.istore_n 1, 1) := by decide +kernel
theorem dX3_markedInWindow_2 : decode cX3_markedInWindow 2 = .ok (.iconst 0, 1) := by decide +kernel
theorem dX3_markedInWindow_3 : decode cX3_markedInWindow 3 = .ok (.istore_n 2, 1) := by decide +kernel
theorem dX3_markedInWindow_4 : decode cX3_markedInWindow 4 = .ok (.iload_n 2, 1) := by decide +kernel
theorem dX3_markedInWindow_5 : decode cX3_markedInWindow 5 = .ok (.bipush 8, 2) := by decide +kernel
theorem dX3_markedInWindow_7 : decode cX3_markedInWindow 7 = .ok (.if_icmp .ge 20, 3) := by decide +kernel
theorem dX3_markedInWindow_10 : decode cX3_markedInWindow 10 = .ok (.iload_n 1, 1) := by decide +kernel
theorem dX3_markedInWindow_11 : decode cX3_markedInWindow 11 = .ok (.aload_n 0, 1) := by decide +kernel
theorem dX3_markedInWindow_12 : decode cX3_markedInWindow 12 = .ok (.iload_n 2, 1) := by decide +kernel
theorem dX3_markedInWindow_13 : decode cX3_markedInWindow 13 = .ok (.invokevirtual 110, 3) := by decide +kernel
theorem dX3_markedInWindow_16 : decode cX3_markedInWindow 16 = .ok (.invokestatic 114, 3) := by decide +kernel
theorem dX3_markedInWindow_19 : decode cX3_markedInWindow 19 = .ok (.iadd, 1) := by decide +kernel
theorem dX3_markedInWindow_20 : decode cX3_markedInWindow 20 = .ok (.istore_n 1, 1) := by decide +kernel
theorem dX3_markedInWindow_21 : decode cX3_markedInWindow 21 = .ok (.iinc 2 1, 3) := by decide +kernel
theorem dX3_markedInWindow_24 : decode cX3_markedInWindow 24 = .ok (.goto (-20), 3) := by decide +kernel
theorem dX3_markedInWindow_27 : decode cX3_markedInWindow 27 = .ok (.iload_n 1, 1) := by decide +kernel
theorem dX3_markedInWindow_28 : decode cX3_markedInWindow 28 = .ok (.ireturn, 1) := by decide +kernel
theorem dX4_init_0 : decode cX4_init 0 = .ok (.aload_n 0, 1) := by decide +kernel
theorem dX4_init_1 : decode cX4_init 1 = .ok (.invokespecial 1, 3) := by decide +kernel
theorem dX4_init_4 : decode cX4_init 4 = .ok (.aload_n 0, 1) := by decide +kernel
theorem dX4_init_5 : decode cX4_init 5 = .ok (.bipush 6, 2) := by decide +kernel
theorem dX4_init_7 : decode cX4_init 7 = .ok (.newarray .int, 2) := by decide +kernel
theorem dX4_init_9 : decode cX4_init 9 = .ok (.dup, 1) := by decide +kernel
theorem dX4_init_10 : decode cX4_init 10 = .ok (.iconst 0, 1) := by decide +kernel
theorem dX4_init_11 : decode cX4_init 11 = .ok (.iconst (-1), 1) := by decide +kernel
theorem dX4_init_12 : decode cX4_init 12 = .ok (.iastore, 1) := by decide +kernel
theorem dX4_init_13 : decode cX4_init 13 = .ok (.dup, 1) := by decide +kernel
theorem dX4_init_14 : decode cX4_init 14 = .ok (.iconst 1, 1) := by decide +kernel
theorem dX4_init_15 : decode cX4_init 15 = .ok (.iconst (-1), 1) := by decide +kernel
theorem dX4_init_16 : decode cX4_init 16 = .ok (.iastore, 1) := by decide +kernel
theorem dX4_init_17 : decode cX4_init 17 = .ok (.dup, 1) := by decide +kernel
theorem dX4_init_18 : decode cX4_init 18 = .ok (.iconst 2, 1) := by decide +kernel
theorem dX4_init_19 : decode cX4_init 19 = .ok (.iconst (-1), 1) := by decide +kernel
theorem dX4_init_20 : decode cX4_init 20 = .ok (.iastore, 1) := by decide +kernel
theorem dX4_init_21 : decode cX4_init 21 = .ok (.dup, 1) := by decide +kernel
theorem dX4_init_22 : decode cX4_init 22 = .ok (.iconst 3, 1) := by decide +kernel
theorem dX4_init_23 : decode cX4_init 23 = .ok (.iconst (-1), 1) := by decide +kernel
theorem dX4_init_24 : decode cX4_init 24 = .ok (.iastore, 1) := by decide +kernel
theorem dX4_init_25 : decode cX4_init 25 = .ok (.dup, 1) := by decide +kernel
theorem dX4_init_26 : decode cX4_init 26 = .ok (.iconst 4, 1) := by decide +kernel
theorem dX4_init_27 : decode cX4_init 27 = .ok (.iconst (-1), 1) := by decide +kernel
theorem dX4_init_28 : decode cX4_init 28 = .ok (.iastore, 1) := by decide +kernel
theorem dX4_init_29 : decode cX4_init 29 = .ok (.dup, 1) := by decide +kernel
theorem dX4_init_30 : decode cX4_init 30 = .ok (.iconst 5, 1) := by decide +kernel
theorem dX4_init_31 : decode cX4_init 31 = .ok (.iconst (-1), 1) := by decide +kernel
theorem dX4_init_32 : decode cX4_init 32 = .ok (.iastore, 1) := by decide +kernel
theorem dX4_init_33 : decode cX4_init 33 = .ok (.putfield 9, 3) := by decide +kernel
theorem dX4_init_36 : decode cX4_init 36 = .ok (.aload_n 0, 1) := by decide +kernel
theorem dX4_init_37 : decode cX4_init 37 = .ok (.bipush 6, 2) := by decide +kernel
theorem dX4_init_39 : decode cX4_init 39 = .ok (.newarray .int, 2) := by decide +kernel
theorem dX4_init_41 : decode cX4_init 41 = .ok (.putfield 13, 3) := by decide +kernel
theorem dX4_init_44 : decode cX4_init 44 = .ok (.aload_n 0, 1) := by decide +kernel
theorem dX4_init_45 : decode cX4_init 45 = .ok (.sipush 360, 3) := by decide +kernel
theorem dX4_init_48 : decode cX4_init 48 = .ok (.newarray .long, 2) := by decide +kernel
theorem dX4_init_50 : decode cX4_init 50 = .ok (.putfield 16, 3) := by decide +kernel
theorem dX4_init_53 : decode cX4_init 53 = .ok (.return_, 1) := by decide +kernel
set_option maxRecDepth 20000 in
theorem ggX4_isThere_X6_isWithin : GoodIn wsX4_isThere wsX6_isWithin := goodIn_r _ [3] (by decide +kernel) (by decide +kernel)
set_option maxRecDepth 20000 in
theorem gX4_isThere_X6_isWithin_n20 : GoodIn wsX4_isThere (wsX6_isWithin) := ggX4_isThere_X6_isWithin
theorem dX4_isThere_0 : decode cX4_isThere 0 = .ok (.iload_n 0, 1) := by decide +kernel
theorem dX4_isThere_1 : decode cX4_isThere 1 = .ok (.iconst 0, 1) := by decide +kernel
theorem dX4_isThere_2 : decode cX4_isThere 2 = .ok (.iconst 5, 1) := by decide +kernel
theorem dX4_isThere_3 : decode cX4_isThere 3 = .ok (.invokestatic 20, 3) := by decide +kernel
theorem dX4_isThere_6 : decode cX4_isThere 6 = .ok (.ireturn, 1) := by decide +kernel
theorem dX4_sortOf_0 : decode cX4_sortOf 0 = .ok (.iload_n 1, 1) := by decide +kernel
theorem dX4_sortOf_1 : decode cX4_sortOf 1 = .ok (.ifCond .lt 21, 3) := by decide +kernel
theorem dX4_sortOf_4 : decode cX4_sortOf 4 = .ok (.iload_n 1, 1) := by decide +kernel
theorem dX4_sortOf_5 : decode cX4_sortOf 5 = .ok (.aload_n 0, 1) := by decide +kernel
theorem dX4_sortOf_6 : decode cX4_sortOf 6 = .ok (.getfield 9, 3) := by decide +kernel
theorem dX4_sortOf_9 : decode cX4_sortOf 9 = .ok (.arraylength, 1) := by decide +kernel
theorem dX4_sortOf_10 : decode cX4_sortOf 10 = .ok (.if_icmp .ge 12, 3) := by decide +kernel
theorem dX4_sortOf_13 : decode cX4_sortOf 13 = .ok (.aload_n 0, 1) := by decide +kernel
theorem dX4_sortOf_14 : decode cX4_sortOf 14 = .ok (.getfield 9, 3) := by decide +kernel
theorem dX4_sortOf_17 : decode cX4_sortOf 17 = .ok (.iload_n 1, 1) := by decide +kernel
theorem dX4_sortOf_18 : decode cX4_sortOf 18 = .ok (.iaload, 1) := by decide +kernel
theorem dX4_sortOf_19 : decode cX4_sortOf 19 = .ok (.goto 4, 3) := by decide +kernel
theorem dX4_sortOf_22 : decode cX4_sortOf 22 = .ok (.iconst (-1), 1) := by decide +kernel
theorem dX4_sortOf_23 : decode cX4_sortOf 23 = .ok (.ireturn, 1) := by decide +kernel
theorem dX4_lengthOf_0 : decode cX4_lengthOf 0 = .ok (.iload_n 1, 1) := by decide +kernel
theorem dX4_lengthOf_1 : decode cX4_lengthOf 1 = .ok (.ifCond .lt 21, 3) := by decide +kernel
theorem dX4_lengthOf_4 : decode cX4_lengthOf 4 = .ok (.iload_n 1, 1) := by decide +kernel
theorem dX4_lengthOf_5 : decode cX4_lengthOf 5 = .ok (.aload_n 0, 1) := by decide +kernel
theorem dX4_lengthOf_6 : decode cX4_lengthOf 6 = .ok (.getfield 13, 3) := by decide +kernel
theorem dX4_lengthOf_9 : decode cX4_lengthOf 9 = .ok (.arraylength, 1) := by decide +kernel
theorem dX4_lengthOf_10 : decode cX4_lengthOf 10 = .ok (.if_icmp .ge 12, 3) := by decide +kernel
theorem dX4_lengthOf_13 : decode cX4_lengthOf 13 = .ok (.aload_n 0, 1) := by decide +kernel
theorem dX4_lengthOf_14 : decode cX4_lengthOf 14 = .ok (.getfield 13, 3) := by decide +kernel
theorem dX4_lengthOf_17 : decode cX4_lengthOf 17 = .ok (.iload_n 1, 1) := by decide +kernel
theorem dX4_lengthOf_18 : decode cX4_lengthOf 18 = .ok (.iaload, 1) := by decide +kernel
theorem dX4_lengthOf_19 : decode cX4_lengthOf 19 = .ok (.goto 4, 3) := by decide +kernel
theorem dX4_lengthOf_22 : decode cX4_lengthOf 22 = .ok (.iconst 0, 1) := by decide +kernel
theorem dX4_lengthOf_23 : decode cX4_lengthOf 23 = .ok (.ireturn, 1) := by decide +kernel
set_option maxRecDepth 20000 in
theorem ggX4_become_X4_put : GoodIn wsX4_become wsX4_put := goodIn_r _ [14, 15, 16, 17, 18, 13, 19, 20, 21, 22, 23, 2, 24, 25, 26, 27, 1, 28, 29, 30, 31, 32, 33] (by decide +kernel) (by decide +kernel)
set_option maxRecDepth 20000 in
theorem gX4_become_X4_put : GoodIn wsX4_become (wsV RX4 35 RX4 yX4_put wsX4_put) := goodIn_app (goodIn_of _ (by decide +kernel)) ggX4_become_X4_put
theorem dX4_become_0 : decode cX4_become 0 = .ok (.iload_n 1, 1) := by decide +kernel
theorem dX4_become_1 : decode cX4_become 1 = .ok (.ifCond .lt 21, 3) := by decide +kernel
theorem dX4_become_4 : decode cX4_become 4 = .ok (.iload_n 1, 1) := by decide +kernel
theorem dX4_become_5 : decode cX4_become 5 = .ok (.aload_n 0, 1) := by decide +kernel
theorem dX4_become_6 : decode cX4_become 6 = .ok (.getfield 9, 3) := by decide +kernel
theorem dX4_become_9 : decode cX4_become 9 = .ok (.arraylength, 1) := by decide +kernel
theorem dX4_become_10 : decode cX4_become 10 = .ok (.if_icmp .ge 12, 3) := by decide +kernel
theorem dX4_become_13 : decode cX4_become 13 = .ok (.iload_n 1, 1) := by decide +kernel
theorem dX4_become_14 : decode cX4_become 14 = .ok (.aload_n 0, 1) := by decide +kernel
theorem dX4_become_15 : decode cX4_become 15 = .ok (.getfield 13, 3) := by decide +kernel
theorem dX4_become_18 : decode cX4_become 18 = .ok (.arraylength, 1) := by decide +kernel
theorem dX4_become_19 : decode cX4_become 19 = .ok (.if_icmp .lt 4, 3) := by decide +kernel
theorem dX4_become_22 : decode cX4_become 22 = .ok (.return_, 1) := by decide +kernel
theorem dX4_become_23 : decode cX4_become 23 = .ok (.aload_n 0, 1) := by decide +kernel
theorem dX4_become_24 : decode cX4_become 24 = .ok (.getfield 9, 3) := by decide +kernel
theorem dX4_become_27 : decode cX4_become 27 = .ok (.iload_n 1, 1) := by decide +kernel
theorem dX4_become_28 : decode cX4_become 28 = .ok (.iload_n 2, 1) := by decide +kernel
theorem dX4_become_29 : decode cX4_become 29 = .ok (.iastore, 1) := by decide +kernel
theorem dX4_become_30 : decode cX4_become 30 = .ok (.aload_n 0, 1) := by decide +kernel
theorem dX4_become_31 : decode cX4_become 31 = .ok (.getfield 13, 3) := by decide +kernel
theorem dX4_become_34 : decode cX4_become 34 = .ok (.iload_n 1, 1) := by decide +kernel
theorem dX4_become_35 : decode cX4_become 35 = .ok (.iconst 0, 1) := by decide +kernel
theorem dX4_become_36 : decode cX4_become 36 = .ok (.iload_n 3, 1) := by decide +kernel
theorem dX4_become_37 : decode cX4_become 37 = .ok (.bipush 60, 2) := by decide +kernel
theorem dX4_become_39 : decode cX4_become 39 = .ok (.invokestatic 26, 3) := by decide +kernel
theorem dX4_become_42 : decode cX4_become 42 = .ok (.invokestatic 32, 3) := by decide +kernel
theorem dX4_become_45 : decode cX4_become 45 = .ok (.iastore, 1) := by decide +kernel
theorem dX4_become_46 : decode cX4_become 46 = .ok (.iconst 0, 1) := by decide +kernel
theorem dX4_become_47 : decode cX4_become 47 = .ok (.istore 4, 2) := by decide +kernel
theorem dX4_become_49 : decode cX4_become 49 = .ok (.iload 4, 2) := by decide +kernel
theorem dX4_become_51 : decode cX4_become 51 = .ok (.aload_n 0, 1) := by decide +kernel
theorem dX4_become_52 : decode cX4_become 52 = .ok (.getfield 13, 3) := by decide +kernel
theorem dX4_become_55 : decode cX4_become 55 = .ok (.iload_n 1, 1) := by decide +kernel
theorem dX4_become_56 : decode cX4_become 56 = .ok (.iaload, 1) := by decide +kernel
theorem dX4_become_57 : decode cX4_become 57 = .ok (.if_icmp .ge 17, 3) := by decide +kernel
theorem dX4_become_60 : decode cX4_become 60 = .ok (.aload_n 0, 1) := by decide +kernel
theorem dX4_become_61 : decode cX4_become 61 = .ok (.iload_n 1, 1) := by decide +kernel
theorem dX4_become_62 : decode cX4_become 62 = .ok (.iload 4, 2) := by decide +kernel
theorem dX4_become_64 : decode cX4_become 64 = .ok (.lconst 0, 1) := by decide +kernel
theorem dX4_become_65 : decode cX4_become 65 = .ok (.invokevirtual 35, 3) := by decide +kernel
theorem dX4_become_68 : decode cX4_become 68 = .ok (.iinc 4 1, 3) := by decide +kernel
theorem dX4_become_71 : decode cX4_become 71 = .ok (.goto (-22), 3) := by decide +kernel
theorem dX4_become_74 : decode cX4_become 74 = .ok (.return_, 1) := by decide +kernel
set_option maxRecDepth 20000 in
theorem ggX4_hasRun_X4_lengthOf : GoodIn wsX4_hasRun wsX4_lengthOf := goodIn_r _ [5, 6, 7, 8, 9] (by decide +kernel) (by decide +kernel)
set_option maxRecDepth 20000 in
theorem gX4_hasRun_X4_lengthOf : GoodIn wsX4_hasRun (wsV RX4 39 RX4 yX4_lengthOf wsX4_lengthOf) := goodIn_app (goodIn_of _ (by decide +kernel)) ggX4_hasRun_X4_lengthOf
theorem dX4_hasRun_0 : decode cX4_hasRun 0 = .ok (.iload_n 3, 1) := by decide +kernel
theorem dX4_hasRun_1 : decode cX4_hasRun 1 = .ok (.ifCond .lt 22, 3) := by decide +kernel
theorem dX4_hasRun_4 : decode cX4_hasRun 4 = .ok (.iload_n 2, 1) := by decide +kernel
theorem dX4_hasRun_5 : decode cX4_hasRun 5 = .ok (.ifCond .lt 18, 3) := by decide +kernel
theorem dX4_hasRun_8 : decode cX4_hasRun 8 = .ok (.iload_n 2, 1) := by decide +kernel
theorem dX4_hasRun_9 : decode cX4_hasRun 9 = .ok (.aload_n 0, 1) := by decide +kernel
theorem dX4_hasRun_10 : decode cX4_hasRun 10 = .ok (.iload_n 1, 1) := by decide +kernel
theorem dX4_hasRun_11 : decode cX4_hasRun 11 = .ok (.invokevirtual 39, 3) := by decide +kernel
theorem dX4_hasRun_14 : decode cX4_hasRun 14 = .ok (.iload_n 3, 1) := by decide +kernel
theorem dX4_hasRun_15 : decode cX4_hasRun 15 = .ok (.isub, 1) := by decide +kernel
theorem dX4_hasRun_16 : decode cX4_hasRun 16 = .ok (.if_icmp .gt 7, 3) := by decide +kernel
theorem dX4_hasRun_19 : decode cX4_hasRun 19 = .ok (.iconst 1, 1) := by decide +kernel
theorem dX4_hasRun_20 : decode cX4_hasRun 20 = .ok (.goto 4, 3) := by decide +kernel
theorem dX4_hasRun_23 : decode cX4_hasRun 23 = .ok (.iconst 0, 1) := by decide +kernel
theorem dX4_hasRun_24 : decode cX4_hasRun 24 = .ok (.ireturn, 1) := by decide +kernel
set_option maxRecDepth 20000 in
theorem ggX4_value_X4_hasRun : GoodIn wsX4_value wsX4_hasRun := goodIn_r _ [6, 7, 8, 9, 5, 10, 11, 12, 13, 14] (by decide +kernel) (by decide +kernel)
set_option maxRecDepth 20000 in
theorem gX4_value_X4_hasRun : GoodIn wsX4_value (wsV RX4 43 RX4 yX4_hasRun wsX4_hasRun) := goodIn_app (goodIn_of _ (by decide +kernel)) ggX4_value_X4_hasRun
theorem dX4_value_0 : decode cX4_value 0 = .ok (.bipush 60, 2) := by decide +kernel
theorem dX4_value_2 : decode cX4_value 2 = .ok (.iload_n 1, 1) := by decide +kernel
theorem dX4_value_3 : decode cX4_value 3 = .ok (.imul, 1) := by decide +kernel
theorem dX4_value_4 : decode cX4_value 4 = .ok (.iload_n 2, 1) := by decide +kernel
theorem dX4_value_5 : decode cX4_value 5 = .ok (.iadd, 1) := by decide +kernel
theorem dX4_value_6 : decode cX4_value 6 = .ok (.istore_n 3, 1) := by decide +kernel
theorem dX4_value_7 : decode cX4_value 7 = .ok (.aload_n 0, 1) := by decide +kernel
theorem dX4_value_8 : decode cX4_value 8 = .ok (.iload_n 1, 1) := by decide +kernel
theorem dX4_value_9 : decode cX4_value 9 = .ok (.iload_n 2, 1) := by decide +kernel
theorem dX4_value_10 : decode cX4_value 10 = .ok (.iconst 1, 1) := by decide +kernel
theorem dX4_value_11 : decode cX4_value 11 = .ok (.invokevirtual 43, 3) := by decide +kernel
theorem dX4_value_14 : decode cX4_value 14 = .ok (.ifCond .eq 25, 3) := by decide +kernel
theorem dX4_value_17 : decode cX4_value 17 = .ok (.iload_n 3, 1) := by decide +kernel
theorem dX4_value_18 : decode cX4_value 18 = .ok (.ifCond .lt 21, 3) := by decide +kernel
theorem dX4_value_21 : decode cX4_value 21 = .ok (.iload_n 3, 1) := by decide +kernel
theorem dX4_value_22 : decode cX4_value 22 = .ok (.aload_n 0, 1) := by decide +kernel
theorem dX4_value_23 : decode cX4_value 23 = .ok (.getfield 16, 3) := by decide +kernel
theorem dX4_value_26 : decode cX4_value 26 = .ok (.arraylength, 1) := by decide +kernel
theorem dX4_value_27 : decode cX4_value 27 = .ok (.if_icmp .ge 12, 3) := by decide +kernel
theorem dX4_value_30 : decode cX4_value 30 = .ok (.aload_n 0, 1) := by decide +kernel
theorem dX4_value_31 : decode cX4_value 31 = .ok (.getfield 16, 3) := by decide +kernel
theorem dX4_value_34 : decode cX4_value 34 = .ok (.iload_n 3, 1) := by decide +kernel
theorem dX4_value_35 : decode cX4_value 35 = .ok (.laload, 1) := by decide +kernel
theorem dX4_value_36 : decode cX4_value 36 = .ok (.goto 4, 3) := by decide +kernel
theorem dX4_value_39 : decode cX4_value 39 = .ok (.lconst 0, 1) := by decide +kernel
theorem dX4_value_40 : decode cX4_value 40 = .ok (.lreturn, 1) := by decide +kernel
set_option maxRecDepth 20000 in
theorem ggX4_put_X4_hasRun : GoodIn wsX4_put wsX4_hasRun := goodIn_r _ [6, 7, 8, 9, 5, 10, 11, 20, 21, 22] (by decide +kernel) (by decide +kernel)
set_option maxRecDepth 20000 in
theorem gX4_put_X4_hasRun : GoodIn wsX4_put (wsV RX4 43 RX4 yX4_hasRun wsX4_hasRun) := goodIn_app (goodIn_of _ (by decide +kernel)) ggX4_put_X4_hasRun
set_option maxRecDepth 20000 in
theorem ggX4_put_X4_sortOf : GoodIn wsX4_put wsX4_sortOf := goodIn_r _ [15, 16, 20, 21, 22] (by decide +kernel) (by decide +kernel)
set_option maxRecDepth 20000 in
theorem gX4_put_X4_sortOf : GoodIn wsX4_put (wsV RX4 46 RX4 yX4_sortOf wsX4_sortOf) := goodIn_app (goodIn_of _ (by decide +kernel)) ggX4_put_X4_sortOf
set_option maxRecDepth 20000 in
theorem ggX4_put_X4_cutToSort : GoodIn wsX4_put wsX4_cutToSort := goodIn_r _ [19] (by decide +kernel) (by decide +kernel)
set_option maxRecDepth 20000 in
theorem gX4_put_X4_cutToSort : GoodIn wsX4_put (va_wsS RX4 49 yX4_cutToSort wsX4_cutToSort) := goodIn_app (goodIn_of _ (by decide +kernel)) ggX4_put_X4_cutToSort
theorem dX4_put_0 : decode cX4_put 0 = .ok (.bipush 60, 2) := by decide +kernel
theorem dX4_put_2 : decode cX4_put 2 = .ok (.iload_n 1, 1) := by decide +kernel
theorem dX4_put_3 : decode cX4_put 3 = .ok (.imul, 1) := by decide +kernel
theorem dX4_put_4 : decode cX4_put 4 = .ok (.iload_n 2, 1) := by decide +kernel
theorem dX4_put_5 : decode cX4_put 5 = .ok (.iadd, 1) := by decide +kernel
theorem dX4_put_6 : decode cX4_put 6 = .ok (.istore 5, 2) := by decide +kernel
theorem dX4_put_8 : decode cX4_put 8 = .ok (.aload_n 0, 1) := by decide +kernel
theorem dX4_put_9 : decode cX4_put 9 = .ok (.iload_n 1, 1) := by decide +kernel
theorem dX4_put_10 : decode cX4_put 10 = .ok (.iload_n 2, 1) := by decide +kernel
theorem dX4_put_11 : decode cX4_put 11 = .ok (.iconst 1, 1) := by decide +kernel
theorem dX4_put_12 : decode cX4_put 12 = .ok (.invokevirtual 43, 3) := by decide +kernel
theorem dX4_put_15 : decode cX4_put 15 = .ok (.ifCond .eq 34, 3) := by decide +kernel
theorem dX4_put_18 : decode cX4_put 18 = .ok (.iload 5, 2) := by decide +kernel
theorem dX4_put_20 : decode cX4_put 20 = .ok (.ifCond .lt 29, 3) := by decide +kernel
theorem dX4_put_23 : decode cX4_put 23 = .ok (.iload 5, 2) := by decide +kernel
theorem dX4_put_25 : decode cX4_put 25 = .ok (.aload_n 0, 1) := by decide +kernel
theorem dX4_put_26 : decode cX4_put 26 = .ok (.getfield 16, 3) := by decide +kernel
theorem dX4_put_29 : decode cX4_put 29 = .ok (.arraylength, 1) := by decide +kernel
theorem dX4_put_30 : decode cX4_put 30 = .ok (.if_icmp .ge 19, 3) := by decide +kernel
theorem dX4_put_33 : decode cX4_put 33 = .ok (.aload_n 0, 1) := by decide +kernel
theorem dX4_put_34 : decode cX4_put 34 = .ok (.getfield 16, 3) := by decide +kernel
theorem dX4_put_37 : decode cX4_put 37 = .ok (.iload 5, 2) := by decide +kernel
theorem dX4_put_39 : decode cX4_put 39 = .ok (.aload_n 0, 1) := by decide +kernel
theorem dX4_put_40 : decode cX4_put 40 = .ok (.iload_n 1, 1) := by decide +kernel
theorem dX4_put_41 : decode cX4_put 41 = .ok (.invokevirtual 46, 3) := by decide +kernel
theorem dX4_put_44 : decode cX4_put 44 = .ok (.lload_n 3, 1) := by decide +kernel
theorem dX4_put_45 : decode cX4_put 45 = .ok (.invokestatic 49, 3) := by decide +kernel
theorem dX4_put_48 : decode cX4_put 48 = .ok (.lastore, 1) := by decide +kernel
theorem dX4_put_49 : decode cX4_put 49 = .ok (.return_, 1) := by decide +kernel
theorem dX4_cutToSort_0 : decode cX4_cutToSort 0 = .ok (.iload_n 0, 1) := by decide +kernel
theorem dX4_cutToSort_1 : decode cX4_cutToSort 1 = .ok (.tableswitch 61 0 4 #[35, 40, 45, 61, 49], 35) := by decide +kernel
theorem dX4_cutToSort_36 : decode cX4_cutToSort 36 = .ok (.lload_n 1, 1) := by decide +kernel
theorem dX4_cutToSort_37 : decode cX4_cutToSort 37 = .ok (.l2i, 1) := by decide +kernel
theorem dX4_cutToSort_38 : decode cX4_cutToSort 38 = .ok (.i2b, 1) := by decide +kernel
theorem dX4_cutToSort_39 : decode cX4_cutToSort 39 = .ok (.i2l, 1) := by decide +kernel
theorem dX4_cutToSort_40 : decode cX4_cutToSort 40 = .ok (.lreturn, 1) := by decide +kernel
theorem dX4_cutToSort_41 : decode cX4_cutToSort 41 = .ok (.lload_n 1, 1) := by decide +kernel
theorem dX4_cutToSort_42 : decode cX4_cutToSort 42 = .ok (.l2i, 1) := by decide +kernel
theorem dX4_cutToSort_43 : decode cX4_cutToSort 43 = .ok (.i2s, 1) := by decide +kernel
theorem dX4_cutToSort_44 : decode cX4_cutToSort 44 = .ok (.i2l, 1) := by decide +kernel
theorem dX4_cutToSort_45 : decode cX4_cutToSort 45 = .ok (.lreturn, 1) := by decide +kernel
theorem dX4_cutToSort_46 : decode cX4_cutToSort 46 = .ok (.lload_n 1, 1) := by decide +kernel
theorem dX4_cutToSort_47 : decode cX4_cutToSort 47 = .ok (.l2i, 1) := by decide +kernel
theorem dX4_cutToSort_48 : decode cX4_cutToSort 48 = .ok (.i2l, 1) := by decide +kernel
theorem dX4_cutToSort_49 : decode cX4_cutToSort 49 = .ok (.lreturn, 1) := by decide +kernel
theorem dX4_cutToSort_50 : decode cX4_cutToSort 50 = .ok (.lload_n 1, 1) := by decide +kernel
theorem dX4_cutToSort_51 : decode cX4_cutToSort 51 = .ok (.lconst 0, 1) := by decide +kernel
theorem dX4_cutToSort_52 : decode cX4_cutToSort 52 = .ok (.lcmp, 1) := by decide +kernel
theorem dX4_cutToSort_53 : decode cX4_cutToSort 53 = .ok (.ifCond .eq 7, 3) := by decide +kernel
theorem dX4_cutToSort_56 : decode cX4_cutToSort 56 = .ok (.lconst 1, 1) := by decide +kernel
theorem dX4_cutToSort_57 : decode cX4_cutToSort 57 = .ok (.goto 4, 3) := by decide +kernel
theorem dX4_cutToSort_60 : decode cX4_cutToSort 60 = .ok (.lconst 0, 1) := by decide +kernel
theorem dX4_cutToSort_61 : decode cX4_cutToSort 61 = .ok (.lreturn, 1) := by decide +kernel
theorem dX4_cutToSort_62 : decode cX4_cutToSort 62 = .ok (.lload_n 1, 1) := by decide +kernel
theorem dX4_cutToSort_63 : decode cX4_cutToSort 63 = .ok (.lreturn, 1) := by decide +kernel
set_option maxRecDepth 20000 in
theorem ggX5_init_X5_cell : GoodIn wsX5_init wsX5_cell := goodIn_r _ [11, 5, 12] (by decide +kernel) (by decide +kernel)
set_option maxRecDepth 20000 in
theorem gX5_init_X5_cell : GoodIn wsX5_init (wsV RX5 15 RX5 yX5_cell wsX5_cell) := goodIn_app (goodIn_of _ (by decide +kernel)) ggX5_init_X5_cell
theorem dX5_init_0 : decode cX5_init 0 = .ok (.aload_n 0, 1) := by decide +kernel
theorem dX5_init_1 : decode cX5_init 1 = .ok (.invokespecial 3, 3) := by decide +kernel
theorem dX5_init_4 : decode cX5_init 4 = .ok (.aload_n 0, 1) := by decide +kernel
theorem dX5_init_5 : decode cX5_init 5 = .ok (.sipush 4160, 3) := by decide +kernel
theorem dX5_init_8 : decode cX5_init 8 = .ok (.newarray .int, 2) := by decide +kernel
theorem dX5_init_10 : decode cX5_init 10 = .ok (.putfield 9, 3) := by decide +kernel
theorem dX5_init_13 : decode cX5_init 13 = .ok (.iconst 0, 1) := by decide +kernel
theorem dX5_init_14 : decode cX5_init 14 = .ok (.istore_n 1, 1) := by decide +kernel
theorem dX5_init_15 : decode cX5_init 15 = .ok (.iload_n 1, 1) := by decide +kernel
theorem dX5_init_16 : decode cX5_init 16 = .ok (.bipush 127, 2) := by decide +kernel
theorem dX5_init_18 : decode cX5_init 18 = .ok (.if_icmp .gt 95, 3) := by decide +kernel
theorem dX5_init_21 : decode cX5_init 21 = .ok (.iconst 0, 1) := by decide +kernel
theorem dX5_init_22 : decode cX5_init 22 = .ok (.istore_n 2, 1) := by decide +kernel
theorem dX5_init_23 : decode cX5_init 23 = .ok (.iload_n 2, 1) := by decide +kernel
theorem dX5_init_24 : decode cX5_init 24 = .ok (.iload_n 1, 1) := by decide +kernel
theorem dX5_init_25 : decode cX5_init 25 = .ok (.iconst 2, 1) := by decide +kernel
theorem dX5_init_26 : decode cX5_init 26 = .ok (.idiv, 1) := by decide +kernel
theorem dX5_init_27 : decode cX5_init 27 = .ok (.if_icmp .gt 80, 3) := by decide +kernel
theorem dX5_init_30 : decode cX5_init 30 = .ok (.aload_n 0, 1) := by decide +kernel
theorem dX5_init_31 : decode cX5_init 31 = .ok (.iload_n 1, 1) := by decide +kernel
theorem dX5_init_32 : decode cX5_init 32 = .ok (.iconst 1, 1) := by decide +kernel
theorem dX5_init_33 : decode cX5_init 33 = .ok (.isub, 1) := by decide +kernel
theorem dX5_init_34 : decode cX5_init 34 = .ok (.iload_n 2, 1) := by decide +kernel
theorem dX5_init_35 : decode cX5_init 35 = .ok (.iconst 1, 1) := by decide +kernel
theorem dX5_init_36 : decode cX5_init 36 = .ok (.isub, 1) := by decide +kernel
theorem dX5_init_37 : decode cX5_init 37 = .ok (.invokevirtual 15, 3) := by decide +kernel
theorem dX5_init_40 : decode cX5_init 40 = .ok (.i2l, 1) := by decide +kernel
theorem dX5_init_41 : decode cX5_init 41 = .ok (.aload_n 0, 1) := by decide +kernel
theorem dX5_init_42 : decode cX5_init 42 = .ok (.iload_n 1, 1) := by decide +kernel
theorem dX5_init_43 : decode cX5_init 43 = .ok (.iconst 1, 1) := by decide +kernel
theorem dX5_init_44 : decode cX5_init 44 = .ok (.isub, 1) := by decide +kernel
theorem dX5_init_45 : decode cX5_init 45 = .ok (.iload_n 2, 1) := by decide +kernel
theorem dX5_init_46 : decode cX5_init 46 = .ok (.invokevirtual 15, 3) := by decide +kernel
theorem dX5_init_49 : decode cX5_init 49 = .ok (.i2l, 1) := by decide +kernel
theorem dX5_init_50 : decode cX5_init 50 = .ok (.ladd, 1) := by decide +kernel
theorem dX5_init_51 : decode cX5_init 51 = .ok (.lstore_n 3, 1) := by decide +kernel
theorem dX5_init_52 : decode cX5_init 52 = .ok (.iload_n 1, 1) := by decide +kernel
theorem dX5_init_53 : decode cX5_init 53 = .ok (.iconst 1, 1) := by decide +kernel
theorem dX5_init_54 : decode cX5_init 54 = .ok (.iadd, 1) := by decide +kernel
theorem dX5_init_55 : decode cX5_init 55 = .ok (.iload_n 1, 1) := by decide +kernel
theorem dX5_init_56 : decode cX5_init 56 = .ok (.iconst 1, 1) := by decide +kernel
theorem dX5_init_57 : decode cX5_init 57 = .ok (.iadd, 1) := by decide +kernel
theorem dX5_init_58 : decode cX5_init 58 = .ok (.imul, 1) := by decide +kernel
theorem dX5_init_59 : decode cX5_init 59 = .ok (.iconst 4, 1) := by decide +kernel
theorem dX5_init_60 : decode cX5_init 60 = .ok (.idiv, 1) := by decide +kernel
theorem dX5_init_61 : decode cX5_init 61 = .ok (.iload_n 2, 1) := by decide +kernel
theorem dX5_init_62 : decode cX5_init 62 = .ok (.iadd, 1) := by decide +kernel
theorem dX5_init_63 : decode cX5_init 63 = .ok (.istore 5, 2) := by decide +kernel
theorem dX5_init_65 : decode cX5_init 65 = .ok (.iload 5, 2) := by decide +kernel
theorem dX5_init_67 : decode cX5_init 67 = .ok (.ifCond .lt 34, 3) := by decide +kernel
theorem dX5_init_70 : decode cX5_init 70 = .ok (.iload 5, 2) := by decide +kernel
theorem dX5_init_72 : decode cX5_init 72 = .ok (.aload_n 0, 1) := by decide +kernel
theorem dX5_init_73 : decode cX5_init 73 = .ok (.getfield 9, 3) := by decide +kernel
theorem dX5_init_76 : decode cX5_init 76 = .ok (.arraylength, 1) := by decide +kernel
theorem dX5_init_77 : decode cX5_init 77 = .ok (.if_icmp .ge 24, 3) := by decide +kernel
theorem dX5_init_80 : decode cX5_init 80 = .ok (.aload_n 0, 1) := by decide +kernel
theorem dX5_init_81 : decode cX5_init 81 = .ok (.getfield 9, 3) := by decide +kernel
theorem dX5_init_84 : decode cX5_init 84 = .ok (.iload 5, 2) := by decide +kernel
theorem dX5_init_86 : decode cX5_init 86 = .ok (.iload_n 2, 1) := by decide +kernel
theorem dX5_init_87 : decode cX5_init 87 = .ok (.ifCond .ne 7, 3) := by decide +kernel
theorem dX5_init_90 : decode cX5_init 90 = .ok (.iconst 1, 1) := by decide +kernel
theorem dX5_init_91 : decode cX5_init 91 = .ok (.goto 9, 3) := by decide +kernel
theorem dX5_init_94 : decode cX5_init 94 = .ok (.lload_n 3, 1) := by decide +kernel
theorem dX5_init_95 : decode cX5_init 95 = .ok (.ldc2_w 19, 3) := by decide +kernel
theorem dX5_init_98 : decode cX5_init 98 = .ok (.lrem, 1) := by decide +kernel
theorem dX5_init_99 : decode cX5_init 99 = .ok (.l2i, 1) := by decide +kernel
theorem dX5_init_100 : decode cX5_init 100 = .ok (.iastore, 1) := by decide +kernel
theorem dX5_init_101 : decode cX5_init 101 = .ok (.iinc 2 1, 3) := by decide +kernel
theorem dX5_init_104 : decode cX5_init 104 = .ok (.goto (-81), 3) := by decide +kernel
theorem dX5_init_107 : decode cX5_init 107 = .ok (.iinc 1 1, 3) := by decide +kernel
theorem dX5_init_110 : decode cX5_init 110 = .ok (.goto (-95), 3) := by decide +kernel
theorem dX5_init_113 : decode cX5_init 113 = .ok (.return_, 1) := by decide +kernel
theorem dX5_cell_0 : decode cX5_cell 0 = .ok (.iload_n 1, 1) := by decide +kernel
theorem dX5_cell_1 : decode cX5_cell 1 = .ok (.ifCond .lt 18, 3) := by decide +kernel
theorem dX5_cell_4 : decode cX5_cell 4 = .ok (.iload_n 1, 1) := by decide +kernel
theorem dX5_cell_5 : decode cX5_cell 5 = .ok (.bipush 127, 2) := by decide +kernel
theorem dX5_cell_7 : decode cX5_cell 7 = .ok (.if_icmp .gt 12, 3) := by decide +kernel
theorem dX5_cell_10 : decode cX5_cell 10 = .ok (.iload_n 2, 1) := by decide +kernel
theorem dX5_cell_11 : decode cX5_cell 11 = .ok (.ifCond .lt 8, 3) := by decide +kernel
theorem dX5_cell_14 : decode cX5_cell 14 = .ok (.iload_n 2, 1) := by decide +kernel
theorem dX5_cell_15 : decode cX5_cell 15 = .ok (.iload_n 1, 1) := by decide +kernel
theorem dX5_cell_16 : decode cX5_cell 16 = .ok (.if_icmp .le 5, 3) := by decide +kernel
theorem dX5_cell_19 : decode cX5_cell 19 = .ok (.iconst 0, 1) := by decide +kernel
theorem dX5_cell_20 : decode cX5_cell 20 = .ok (.ireturn, 1) := by decide +kernel
theorem dX5_cell_21 : decode cX5_cell 21 = .ok (.iload_n 2, 1) := by decide +kernel
theorem dX5_cell_22 : decode cX5_cell 22 = .ok (.iload_n 1, 1) := by decide +kernel
theorem dX5_cell_23 : decode cX5_cell 23 = .ok (.iconst 2, 1) := by decide +kernel
theorem dX5_cell_24 : decode cX5_cell 24 = .ok (.idiv, 1) := by decide +kernel
theorem dX5_cell_25 : decode cX5_cell 25 = .ok (.if_icmp .gt 7, 3) := by decide +kernel
theorem dX5_cell_28 : decode cX5_cell 28 = .ok (.iload_n 2, 1) := by decide +kernel
theorem dX5_cell_29 : decode cX5_cell 29 = .ok (.goto 6, 3) := by decide +kernel
theorem dX5_cell_32 : decode cX5_cell 32 = .ok (.iload_n 1, 1) := by decide +kernel
theorem dX5_cell_33 : decode cX5_cell 33 = .ok (.iload_n 2, 1) := by decide +kernel
theorem dX5_cell_34 : decode cX5_cell 34 = .ok (.isub, 1) := by decide +kernel
theorem dX5_cell_35 : decode cX5_cell 35 = .ok (.istore_n 3, 1) := by decide +kernel
theorem dX5_cell_36 : decode cX5_cell 36 = .ok (.iload_n 1, 1) := by decide +kernel
theorem dX5_cell_37 : decode cX5_cell 37 = .ok (.iconst 1, 1) := by decide +kernel
theorem dX5_cell_38 : decode cX5_cell 38 = .ok (.iadd, 1) := by decide +kernel
theorem dX5_cell_39 : decode cX5_cell 39 = .ok (.iload_n 1, 1) := by decide +kernel
theorem dX5_cell_40 : decode cX5_cell 40 = .ok (.iconst 1, 1) := by decide +kernel
theorem dX5_cell_41 : decode cX5_cell 41 = .ok (.iadd, 1) := by decide +kernel
theorem dX5_cell_42 : decode cX5_cell 42 = .ok (.imul, 1) := by decide +kernel
theorem dX5_cell_43 : decode cX5_cell 43 = .ok (.iconst 4, 1) := by decide +kernel
theorem dX5_cell_44 : decode cX5_cell 44 = .ok (.idiv, 1) := by decide +kernel
theorem dX5_cell_45 : decode cX5_cell 45 = .ok (.iload_n 3, 1) := by decide +kernel
theorem dX5_cell_46 : decode cX5_cell 46 = .ok (.iadd, 1) := by decide +kernel
theorem dX5_cell_47 : decode cX5_cell 47 = .ok (.istore 4, 2) := by decide +kernel
theorem dX5_cell_49 : decode cX5_cell 49 = .ok (.iload 4, 2) := by decide +kernel
theorem dX5_cell_51 : decode cX5_cell 51 = .ok (.ifCond .lt 23, 3) := by decide +kernel
theorem dX5_cell_54 : decode cX5_cell 54 = .ok (.iload 4, 2) := by decide +kernel
theorem dX5_cell_56 : decode cX5_cell 56 = .ok (.aload_n 0, 1) := by decide +kernel
theorem dX5_cell_57 : decode cX5_cell 57 = .ok (.getfield 9, 3) := by decide +kernel
theorem dX5_cell_60 : decode cX5_cell 60 = .ok (.arraylength, 1) := by decide +kernel
theorem dX5_cell_61 : decode cX5_cell 61 = .ok (.if_icmp .ge 13, 3) := by decide +kernel
theorem dX5_cell_64 : decode cX5_cell 64 = .ok (.aload_n 0, 1) := by decide +kernel
theorem dX5_cell_65 : decode cX5_cell 65 = .ok (.getfield 9, 3) := by decide +kernel
theorem dX5_cell_68 : decode cX5_cell 68 = .ok (.iload 4, 2) := by decide +kernel
theorem dX5_cell_70 : decode cX5_cell 70 = .ok (.iaload, 1) := by decide +kernel
theorem dX5_cell_71 : decode cX5_cell 71 = .ok (.goto 4, 3) := by decide +kernel
theorem dX5_cell_74 : decode cX5_cell 74 = .ok (.iconst 0, 1) := by decide +kernel
theorem dX5_cell_75 : decode cX5_cell 75 = .ok (.ireturn, 1) := by decide +kernel
set_option maxRecDepth 20000 in
theorem ggX5_remainder_X5_cell : GoodIn wsX5_remainder wsX5_cell := goodIn_r _ [5, 6, 7] (by decide +kernel) (by decide +kernel)
set_option maxRecDepth 20000 in
theorem gX5_remainder_X5_cell : GoodIn wsX5_remainder (wsV RX5 15 RX5 yX5_cell wsX5_cell) := goodIn_app (goodIn_of _ (by decide +kernel)) ggX5_remainder_X5_cell
theorem dX5_remainder_0 : decode cX5_remainder 0 = .ok (.iload_n 3, 1) := by decide +kernel
theorem dX5_remainder_1 : decode cX5_remainder 1 = .ok (.ifCond .le 14, 3) := by decide +kernel
theorem dX5_remainder_4 : decode cX5_remainder 4 = .ok (.aload_n 0, 1) := by decide +kernel
theorem dX5_remainder_5 : decode cX5_remainder 5 = .ok (.iload_n 1, 1) := by decide +kernel
theorem dX5_remainder_6 : decode cX5_remainder 6 = .ok (.iload_n 2, 1) := by decide +kernel
theorem dX5_remainder_7 : decode cX5_remainder 7 = .ok (.invokevirtual 15, 3) := by decide +kernel
theorem dX5_remainder_10 : decode cX5_remainder 10 = .ok (.iload_n 3, 1) := by decide +kernel
theorem dX5_remainder_11 : decode cX5_remainder 11 = .ok (.irem, 1) := by decide +kernel
theorem dX5_remainder_12 : decode cX5_remainder 12 = .ok (.goto 4, 3) := by decide +kernel
theorem dX5_remainder_15 : decode cX5_remainder 15 = .ok (.iconst 0, 1) := by decide +kernel
theorem dX5_remainder_16 : decode cX5_remainder 16 = .ok (.ireturn, 1) := by decide +kernel
set_option maxRecDepth 20000 in
theorem ggX5_lucas_X5_cell : GoodIn wsX5_lucas wsX5_cell := goodIn_r _ [5, 6, 7] (by decide +kernel) (by decide +kernel)
set_option maxRecDepth 20000 in
theorem gX5_lucas_X5_cell : GoodIn wsX5_lucas (wsV RX5 15 RX5 yX5_cell wsX5_cell) := goodIn_app (goodIn_of _ (by decide +kernel)) ggX5_lucas_X5_cell
theorem dX5_lucas_0 : decode cX5_lucas 0 = .ok (.iload_n 1, 1) := by decide +kernel
theorem dX5_lucas_1 : decode cX5_lucas 1 = .ok (.iconst 2, 1) := by decide +kernel
theorem dX5_lucas_2 : decode cX5_lucas 2 = .ok (.if_icmp .ge 5, 3) := by decide +kernel
theorem dX5_lucas_5 : decode cX5_lucas 5 = .ok (.iconst 0, 1) := by decide +kernel
theorem dX5_lucas_6 : decode cX5_lucas 6 = .ok (.ireturn, 1) := by decide +kernel
theorem dX5_lucas_7 : decode cX5_lucas 7 = .ok (.iconst 1, 1) := by decide +kernel
theorem dX5_lucas_8 : decode cX5_lucas 8 = .ok (.istore 4, 2) := by decide +kernel
theorem dX5_lucas_10 : decode cX5_lucas 10 = .ok (.iload_n 2, 1) := by decide +kernel
theorem dX5_lucas_11 : decode cX5_lucas 11 = .ok (.istore 5, 2) := by decide +kernel
theorem dX5_lucas_13 : decode cX5_lucas 13 = .ok (.iload_n 3, 1) := by decide +kernel
theorem dX5_lucas_14 : decode cX5_lucas 14 = .ok (.istore 6, 2) := by decide +kernel
theorem dX5_lucas_16 : decode cX5_lucas 16 = .ok (.iconst 0, 1) := by decide +kernel
theorem dX5_lucas_17 : decode cX5_lucas 17 = .ok (.istore 7, 2) := by decide +kernel
theorem dX5_lucas_19 : decode cX5_lucas 19 = .ok (.iload 7, 2) := by decide +kernel
theorem dX5_lucas_21 : decode cX5_lucas 21 = .ok (.bipush 14, 2) := by decide +kernel
theorem dX5_lucas_23 : decode cX5_lucas 23 = .ok (.if_icmp .ge 45, 3) := by decide +kernel
theorem dX5_lucas_26 : decode cX5_lucas 26 = .ok (.iload 5, 2) := by decide +kernel
theorem dX5_lucas_28 : decode cX5_lucas 28 = .ok (.ifCond .le 40, 3) := by decide +kernel
theorem dX5_lucas_31 : decode cX5_lucas 31 = .ok (.iload 4, 2) := by decide +kernel
theorem dX5_lucas_33 : decode cX5_lucas 33 = .ok (.aload_n 0, 1) := by decide +kernel
theorem dX5_lucas_34 : decode cX5_lucas 34 = .ok (.iload 5, 2) := by decide +kernel
theorem dX5_lucas_36 : decode cX5_lucas 36 = .ok (.iload_n 1, 1) := by decide +kernel
theorem dX5_lucas_37 : decode cX5_lucas 37 = .ok (.irem, 1) := by decide +kernel
theorem dX5_lucas_38 : decode cX5_lucas 38 = .ok (.iload 6, 2) := by decide +kernel
theorem dX5_lucas_40 : decode cX5_lucas 40 = .ok (.iload_n 1, 1) := by decide +kernel
theorem dX5_lucas_41 : decode cX5_lucas 41 = .ok (.irem, 1) := by decide +kernel
theorem dX5_lucas_42 : decode cX5_lucas 42 = .ok (.invokevirtual 15, 3) := by decide +kernel
theorem dX5_lucas_45 : decode cX5_lucas 45 = .ok (.imul, 1) := by decide +kernel
theorem dX5_lucas_46 : decode cX5_lucas 46 = .ok (.iload_n 1, 1) := by decide +kernel
theorem dX5_lucas_47 : decode cX5_lucas 47 = .ok (.irem, 1) := by decide +kernel
theorem dX5_lucas_48 : decode cX5_lucas 48 = .ok (.istore 4, 2) := by decide +kernel
theorem dX5_lucas_50 : decode cX5_lucas 50 = .ok (.iload 5, 2) := by decide +kernel
theorem dX5_lucas_52 : decode cX5_lucas 52 = .ok (.iload_n 1, 1) := by decide +kernel
theorem dX5_lucas_53 : decode cX5_lucas 53 = .ok (.idiv, 1) := by decide +kernel
theorem dX5_lucas_54 : decode cX5_lucas 54 = .ok (.istore 5, 2) := by decide +kernel
theorem dX5_lucas_56 : decode cX5_lucas 56 = .ok (.iload 6, 2) := by decide +kernel
theorem dX5_lucas_58 : decode cX5_lucas 58 = .ok (.iload_n 1, 1) := by decide +kernel
theorem dX5_lucas_59 : decode cX5_lucas 59 = .ok (.idiv, 1) := by decide +kernel
theorem dX5_lucas_60 : decode cX5_lucas 60 = .ok (.istore 6, 2) := by decide +kernel
theorem dX5_lucas_62 : decode cX5_lucas 62 = .ok (.iinc 7 1, 3) := by decide +kernel
theorem dX5_lucas_65 : decode cX5_lucas 65 = .ok (.goto (-46), 3) := by decide +kernel
theorem dX5_lucas_68 : decode cX5_lucas 68 = .ok (.iload 4, 2) := by decide +kernel
theorem dX5_lucas_70 : decode cX5_lucas 70 = .ok (.ireturn, 1) := by decide +kernel
