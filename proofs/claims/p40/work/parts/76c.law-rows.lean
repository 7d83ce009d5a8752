/-! rows of the law's static methods -/
theorem dL_cell_0 : decode cL_cell 0 = .ok (.ldc 7, 2) := by decide +kernel
theorem dL_cell_2 : decode cL_cell 2 = .ok (.iload_n 1, 1) := by decide +kernel
theorem dL_cell_3 : decode cL_cell 3 = .ok (.aload_n 0, 1) := by decide +kernel
theorem dL_cell_4 : decode cL_cell 4 = .ok (.arraylength, 1) := by decide +kernel
theorem dL_cell_5 : decode cL_cell 5 = .ok (.if_icmp .ge 9, 3) := by decide +kernel
theorem dL_cell_8 : decode cL_cell 8 = .ok (.aload_n 0, 1) := by decide +kernel
theorem dL_cell_9 : decode cL_cell 9 = .ok (.iload_n 1, 1) := by decide +kernel
theorem dL_cell_10 : decode cL_cell 10 = .ok (.iaload, 1) := by decide +kernel
theorem dL_cell_11 : decode cL_cell 11 = .ok (.goto 4, 3) := by decide +kernel
theorem dL_cell_14 : decode cL_cell 14 = .ok (.iconst 0, 1) := by decide +kernel
theorem dL_cell_15 : decode cL_cell 15 = .ok (.sipush 1009, 3) := by decide +kernel
theorem dL_cell_18 : decode cL_cell 18 = .ok (.iload_n 1, 1) := by decide +kernel
theorem dL_cell_19 : decode cL_cell 19 = .ok (.imul, 1) := by decide +kernel
theorem dL_cell_20 : decode cL_cell 20 = .ok (.iadd, 1) := by decide +kernel
theorem dL_cell_21 : decode cL_cell 21 = .ok (.imul, 1) := by decide +kernel
theorem dL_cell_22 : decode cL_cell 22 = .ok (.sipush 12345, 3) := by decide +kernel
theorem dL_cell_25 : decode cL_cell 25 = .ok (.iadd, 1) := by decide +kernel
theorem dL_cell_26 : decode cL_cell 26 = .ok (.istore_n 2, 1) := by decide +kernel
theorem dL_cell_27 : decode cL_cell 27 = .ok (.iload_n 2, 1) := by decide +kernel
theorem dL_cell_28 : decode cL_cell 28 = .ok (.iload_n 2, 1) := by decide +kernel
theorem dL_cell_29 : decode cL_cell 29 = .ok (.bipush 13, 2) := by decide +kernel
theorem dL_cell_31 : decode cL_cell 31 = .ok (.iushr, 1) := by decide +kernel
theorem dL_cell_32 : decode cL_cell 32 = .ok (.ixor, 1) := by decide +kernel
theorem dL_cell_33 : decode cL_cell 33 = .ok (.ldc 8, 2) := by decide +kernel
theorem dL_cell_35 : decode cL_cell 35 = .ok (.imul, 1) := by decide +kernel
theorem dL_cell_36 : decode cL_cell 36 = .ok (.istore_n 2, 1) := by decide +kernel
theorem dL_cell_37 : decode cL_cell 37 = .ok (.iload_n 2, 1) := by decide +kernel
theorem dL_cell_38 : decode cL_cell 38 = .ok (.iload_n 2, 1) := by decide +kernel
theorem dL_cell_39 : decode cL_cell 39 = .ok (.bipush 16, 2) := by decide +kernel
theorem dL_cell_41 : decode cL_cell 41 = .ok (.iushr, 1) := by decide +kernel
theorem dL_cell_42 : decode cL_cell 42 = .ok (.ixor, 1) := by decide +kernel
theorem dL_cell_43 : decode cL_cell 43 = .ok (.ireturn, 1) := by decide +kernel
theorem dL_puts_0 : decode cL_puts 0 = .ok (.iload_n 1, 1) := by decide +kernel
theorem dL_puts_1 : decode cL_puts 1 = .ok (.istore_n 3, 1) := by decide +kernel
theorem dL_puts_2 : decode cL_puts 2 = .ok (.iload_n 2, 1) := by decide +kernel
theorem dL_puts_3 : decode cL_puts 3 = .ok (.bipush 99, 2) := by decide +kernel
theorem dL_puts_5 : decode cL_puts 5 = .ok (.if_icmp .le 8, 3) := by decide +kernel
theorem dL_puts_8 : decode cL_puts 8 = .ok (.bipush 100, 2) := by decide +kernel
theorem dL_puts_10 : decode cL_puts 10 = .ok (.goto 15, 3) := by decide +kernel
theorem dL_puts_13 : decode cL_puts 13 = .ok (.iload_n 2, 1) := by decide +kernel
theorem dL_puts_14 : decode cL_puts 14 = .ok (.bipush 9, 2) := by decide +kernel
theorem dL_puts_16 : decode cL_puts 16 = .ok (.if_icmp .le 8, 3) := by decide +kernel
theorem dL_puts_19 : decode cL_puts 19 = .ok (.bipush 10, 2) := by decide +kernel
theorem dL_puts_21 : decode cL_puts 21 = .ok (.goto 4, 3) := by decide +kernel
theorem dL_puts_24 : decode cL_puts 24 = .ok (.iconst 1, 1) := by decide +kernel
theorem dL_puts_25 : decode cL_puts 25 = .ok (.istore 4, 2) := by decide +kernel
theorem dL_puts_27 : decode cL_puts 27 = .ok (.iload 4, 2) := by decide +kernel
theorem dL_puts_29 : decode cL_puts 29 = .ok (.ifCond .le 29, 3) := by decide +kernel
theorem dL_puts_32 : decode cL_puts 32 = .ok (.aload_n 0, 1) := by decide +kernel
theorem dL_puts_33 : decode cL_puts 33 = .ok (.iload_n 3, 1) := by decide +kernel
theorem dL_puts_34 : decode cL_puts 34 = .ok (.bipush 48, 2) := by decide +kernel
theorem dL_puts_36 : decode cL_puts 36 = .ok (.iload_n 2, 1) := by decide +kernel
theorem dL_puts_37 : decode cL_puts 37 = .ok (.iload 4, 2) := by decide +kernel
theorem dL_puts_39 : decode cL_puts 39 = .ok (.idiv, 1) := by decide +kernel
theorem dL_puts_40 : decode cL_puts 40 = .ok (.bipush 10, 2) := by decide +kernel
theorem dL_puts_42 : decode cL_puts 42 = .ok (.irem, 1) := by decide +kernel
theorem dL_puts_43 : decode cL_puts 43 = .ok (.iadd, 1) := by decide +kernel
theorem dL_puts_44 : decode cL_puts 44 = .ok (.iastore, 1) := by decide +kernel
theorem dL_puts_45 : decode cL_puts 45 = .ok (.iinc 3 1, 3) := by decide +kernel
theorem dL_puts_48 : decode cL_puts 48 = .ok (.iload 4, 2) := by decide +kernel
theorem dL_puts_50 : decode cL_puts 50 = .ok (.bipush 10, 2) := by decide +kernel
theorem dL_puts_52 : decode cL_puts 52 = .ok (.idiv, 1) := by decide +kernel
theorem dL_puts_53 : decode cL_puts 53 = .ok (.istore 4, 2) := by decide +kernel
theorem dL_puts_55 : decode cL_puts 55 = .ok (.goto (-28), 3) := by decide +kernel
theorem dL_puts_58 : decode cL_puts 58 = .ok (.iload_n 3, 1) := by decide +kernel
theorem dL_puts_59 : decode cL_puts 59 = .ok (.ireturn, 1) := by decide +kernel
set_option maxRecDepth 20000 in
theorem ggL_state_X6_told : GoodIn wsL_state wsX6_told := goodIn_r _ [6, 7, 8, 9, 10, 11, 12, 13, 14, 15, 16, 17, 18, 19, 20, 21, 22, 23, 24, 5, 25, 26, 27, 28, 29, 30, 31, 32, 33, 34, 35, 36, 37, 38, 39, 40, 41, 42, 43, 44, 45, 46, 47, 48, 49, 50, 51, 52, 53, 54, 55, 56, 57, 58, 59, 60, 61, 62, 63, 64, 65, 66, 67, 68, 69, 70, 71, 72, 73, 74, 75, 76, 82, 83, 84, 85, 86, 87, 88, 89, 90, 91, 92, 93, 94, 95, 96, 97, 98, 99, 100, 101] (by decide +kernel) (by decide +kernel)
set_option maxRecDepth 20000 in
theorem gL_state_X6_told : GoodIn wsL_state (wsV RL 32 RX6 yX6_told wsX6_told) := goodIn_app (goodIn_of _ (by decide +kernel)) ggL_state_X6_told
set_option maxRecDepth 20000 in
theorem ggL_state_X6_markOf : GoodIn wsL_state wsX6_markOf := goodIn_r _ [80, 7, 29, 30, 5, 31, 81, 33, 34, 35, 36, 37, 38, 82, 83, 84, 85, 86, 87, 88, 89, 90, 91, 92, 93, 94, 95, 96, 97, 98, 99, 100] (by decide +kernel) (by decide +kernel)
set_option maxRecDepth 20000 in
theorem gL_state_X6_markOf : GoodIn wsL_state (wsV RL 35 RX6 yX6_markOf wsX6_markOf) := goodIn_app (goodIn_of _ (by decide +kernel)) ggL_state_X6_markOf
theorem dL_state_0 : decode cL_state 0 = .ok (.bipush 20, 2) := by decide +kernel
theorem dL_state_2 : decode cL_state 2 = .ok (.newarray .int, 2) := by decide +kernel
theorem dL_state_4 : decode cL_state 4 = .ok (.astore_n 1, 1) := by decide +kernel
theorem dL_state_5 : decode cL_state 5 = .ok (.iconst 0, 1) := by decide +kernel
theorem dL_state_6 : decode cL_state 6 = .ok (.istore_n 2, 1) := by decide +kernel
theorem dL_state_7 : decode cL_state 7 = .ok (.iload_n 2, 1) := by decide +kernel
theorem dL_state_8 : decode cL_state 8 = .ok (.bipush 6, 2) := by decide +kernel
theorem dL_state_10 : decode cL_state 10 = .ok (.if_icmp .ge 17, 3) := by decide +kernel
theorem dL_state_13 : decode cL_state 13 = .ok (.aload_n 1, 1) := by decide +kernel
theorem dL_state_14 : decode cL_state 14 = .ok (.iload_n 2, 1) := by decide +kernel
theorem dL_state_15 : decode cL_state 15 = .ok (.aload_n 0, 1) := by decide +kernel
theorem dL_state_16 : decode cL_state 16 = .ok (.iload_n 2, 1) := by decide +kernel
theorem dL_state_17 : decode cL_state 17 = .ok (.invokevirtual 32, 3) := by decide +kernel
theorem dL_state_20 : decode cL_state 20 = .ok (.iastore, 1) := by decide +kernel
theorem dL_state_21 : decode cL_state 21 = .ok (.iinc 2 1, 3) := by decide +kernel
theorem dL_state_24 : decode cL_state 24 = .ok (.goto (-17), 3) := by decide +kernel
theorem dL_state_27 : decode cL_state 27 = .ok (.iconst 0, 1) := by decide +kernel
theorem dL_state_28 : decode cL_state 28 = .ok (.istore_n 2, 1) := by decide +kernel
theorem dL_state_29 : decode cL_state 29 = .ok (.iload_n 2, 1) := by decide +kernel
theorem dL_state_30 : decode cL_state 30 = .ok (.aload_n 0, 1) := by decide +kernel
theorem dL_state_31 : decode cL_state 31 = .ok (.iconst 3, 1) := by decide +kernel
theorem dL_state_32 : decode cL_state 32 = .ok (.invokevirtual 32, 3) := by decide +kernel
theorem dL_state_35 : decode cL_state 35 = .ok (.if_icmp .ge 41, 3) := by decide +kernel
theorem dL_state_38 : decode cL_state 38 = .ok (.aload_n 1, 1) := by decide +kernel
theorem dL_state_39 : decode cL_state 39 = .ok (.bipush 6, 2) := by decide +kernel
theorem dL_state_41 : decode cL_state 41 = .ok (.iconst 2, 1) := by decide +kernel
theorem dL_state_42 : decode cL_state 42 = .ok (.iload_n 2, 1) := by decide +kernel
theorem dL_state_43 : decode cL_state 43 = .ok (.imul, 1) := by decide +kernel
theorem dL_state_44 : decode cL_state 44 = .ok (.iadd, 1) := by decide +kernel
theorem dL_state_45 : decode cL_state 45 = .ok (.aload_n 0, 1) := by decide +kernel
theorem dL_state_46 : decode cL_state 46 = .ok (.iload_n 2, 1) := by decide +kernel
theorem dL_state_47 : decode cL_state 47 = .ok (.iconst 0, 1) := by decide +kernel
theorem dL_state_48 : decode cL_state 48 = .ok (.invokevirtual 35, 3) := by decide +kernel
theorem dL_state_51 : decode cL_state 51 = .ok (.iconst 1, 1) := by decide +kernel
theorem dL_state_52 : decode cL_state 52 = .ok (.iadd, 1) := by decide +kernel
theorem dL_state_53 : decode cL_state 53 = .ok (.iastore, 1) := by decide +kernel
theorem dL_state_54 : decode cL_state 54 = .ok (.aload_n 1, 1) := by decide +kernel
theorem dL_state_55 : decode cL_state 55 = .ok (.bipush 7, 2) := by decide +kernel
theorem dL_state_57 : decode cL_state 57 = .ok (.iconst 2, 1) := by decide +kernel
theorem dL_state_58 : decode cL_state 58 = .ok (.iload_n 2, 1) := by decide +kernel
theorem dL_state_59 : decode cL_state 59 = .ok (.imul, 1) := by decide +kernel
theorem dL_state_60 : decode cL_state 60 = .ok (.iadd, 1) := by decide +kernel
theorem dL_state_61 : decode cL_state 61 = .ok (.aload_n 0, 1) := by decide +kernel
theorem dL_state_62 : decode cL_state 62 = .ok (.iload_n 2, 1) := by decide +kernel
theorem dL_state_63 : decode cL_state 63 = .ok (.iconst 1, 1) := by decide +kernel
theorem dL_state_64 : decode cL_state 64 = .ok (.invokevirtual 35, 3) := by decide +kernel
theorem dL_state_67 : decode cL_state 67 = .ok (.iconst 1, 1) := by decide +kernel
theorem dL_state_68 : decode cL_state 68 = .ok (.iadd, 1) := by decide +kernel
theorem dL_state_69 : decode cL_state 69 = .ok (.iastore, 1) := by decide +kernel
theorem dL_state_70 : decode cL_state 70 = .ok (.iinc 2 1, 3) := by decide +kernel
theorem dL_state_73 : decode cL_state 73 = .ok (.goto (-44), 3) := by decide +kernel
theorem dL_state_76 : decode cL_state 76 = .ok (.aload_n 1, 1) := by decide +kernel
theorem dL_state_77 : decode cL_state 77 = .ok (.areturn, 1) := by decide +kernel
theorem dL_areSame_0 : decode cL_areSame 0 = .ok (.iconst 1, 1) := by decide +kernel
theorem dL_areSame_1 : decode cL_areSame 1 = .ok (.istore_n 2, 1) := by decide +kernel
theorem dL_areSame_2 : decode cL_areSame 2 = .ok (.iconst 0, 1) := by decide +kernel
theorem dL_areSame_3 : decode cL_areSame 3 = .ok (.istore_n 3, 1) := by decide +kernel
theorem dL_areSame_4 : decode cL_areSame 4 = .ok (.iload_n 3, 1) := by decide +kernel
theorem dL_areSame_5 : decode cL_areSame 5 = .ok (.aload_n 0, 1) := by decide +kernel
theorem dL_areSame_6 : decode cL_areSame 6 = .ok (.arraylength, 1) := by decide +kernel
theorem dL_areSame_7 : decode cL_areSame 7 = .ok (.if_icmp .ge 26, 3) := by decide +kernel
theorem dL_areSame_10 : decode cL_areSame 10 = .ok (.iload_n 2, 1) := by decide +kernel
theorem dL_areSame_11 : decode cL_areSame 11 = .ok (.aload_n 0, 1) := by decide +kernel
theorem dL_areSame_12 : decode cL_areSame 12 = .ok (.iload_n 3, 1) := by decide +kernel
theorem dL_areSame_13 : decode cL_areSame 13 = .ok (.iaload, 1) := by decide +kernel
theorem dL_areSame_14 : decode cL_areSame 14 = .ok (.aload_n 1, 1) := by decide +kernel
theorem dL_areSame_15 : decode cL_areSame 15 = .ok (.iload_n 3, 1) := by decide +kernel
theorem dL_areSame_16 : decode cL_areSame 16 = .ok (.iaload, 1) := by decide +kernel
theorem dL_areSame_17 : decode cL_areSame 17 = .ok (.if_icmp .ne 7, 3) := by decide +kernel
theorem dL_areSame_20 : decode cL_areSame 20 = .ok (.iconst 1, 1) := by decide +kernel
theorem dL_areSame_21 : decode cL_areSame 21 = .ok (.goto 4, 3) := by decide +kernel
theorem dL_areSame_24 : decode cL_areSame 24 = .ok (.iconst 0, 1) := by decide +kernel
theorem dL_areSame_25 : decode cL_areSame 25 = .ok (.iand, 1) := by decide +kernel
theorem dL_areSame_26 : decode cL_areSame 26 = .ok (.istore_n 2, 1) := by decide +kernel
theorem dL_areSame_27 : decode cL_areSame 27 = .ok (.iinc 3 1, 3) := by decide +kernel
theorem dL_areSame_30 : decode cL_areSame 30 = .ok (.goto (-26), 3) := by decide +kernel
theorem dL_areSame_33 : decode cL_areSame 33 = .ok (.iload_n 2, 1) := by decide +kernel
theorem dL_areSame_34 : decode cL_areSame 34 = .ok (.ireturn, 1) := by decide +kernel
