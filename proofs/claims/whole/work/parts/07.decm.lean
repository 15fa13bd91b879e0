theorem dX1_init_0 : decode cX1_init 0 = .ok (.aload_n 0, 1) := by decide +kernel
theorem dX1_init_1 : decode cX1_init 1 = .ok (.invokespecial 1, 3) := by decide +kernel
theorem dX1_init_4 : decode cX1_init 4 = .ok (.aload_n 0, 1) := by decide +kernel
theorem dX1_init_5 : decode cX1_init 5 = .ok (.iconst 1, 1) := by decide +kernel
theorem dX1_init_6 : decode cX1_init 6 = .ok (.putfield 7, 3) := by decide +kernel
theorem dX1_init_9 : decode cX1_init 9 = .ok (.aload_n 0, 1) := by decide +kernel
theorem dX1_init_10 : decode cX1_init 10 = .ok (.iconst 1, 1) := by decide +kernel
theorem dX1_init_11 : decode cX1_init 11 = .ok (.putfield 13, 3) := by decide +kernel
theorem dX1_init_14 : decode cX1_init 14 = .ok (.aload_n 0, 1) := by decide +kernel
theorem dX1_init_15 : decode cX1_init 15 = .ok (.bipush 24, 2) := by decide +kernel
theorem dX1_init_17 : decode cX1_init 17 = .ok (.newarray .int, 2) := by decide +kernel
theorem dX1_init_19 : decode cX1_init 19 = .ok (.putfield 16, 3) := by decide +kernel
theorem dX1_init_22 : decode cX1_init 22 = .ok (.aload_n 0, 1) := by decide +kernel
theorem dX1_init_23 : decode cX1_init 23 = .ok (.bipush 6, 2) := by decide +kernel
theorem dX1_init_25 : decode cX1_init 25 = .ok (.newarray .int, 2) := by decide +kernel
theorem dX1_init_27 : decode cX1_init 27 = .ok (.putfield 20, 3) := by decide +kernel
theorem dX1_init_30 : decode cX1_init 30 = .ok (.aload_n 0, 1) := by decide +kernel
theorem dX1_init_31 : decode cX1_init 31 = .ok (.bipush 6, 2) := by decide +kernel
theorem dX1_init_33 : decode cX1_init 33 = .ok (.newarray .int, 2) := by decide +kernel
theorem dX1_init_35 : decode cX1_init 35 = .ok (.putfield 23, 3) := by decide +kernel
theorem dX1_init_38 : decode cX1_init 38 = .ok (.aload_n 0, 1) := by decide +kernel
theorem dX1_init_39 : decode cX1_init 39 = .ok (.bipush 6, 2) := by decide +kernel
theorem dX1_init_41 : decode cX1_init 41 = .ok (.newarray .int, 2) := by decide +kernel
theorem dX1_init_43 : decode cX1_init 43 = .ok (.putfield 26, 3) := by decide +kernel
theorem dX1_init_46 : decode cX1_init 46 = .ok (.aload_n 0, 1) := by decide +kernel
theorem dX1_init_47 : decode cX1_init 47 = .ok (.sipush 729, 3) := by decide +kernel
theorem dX1_init_50 : decode cX1_init 50 = .ok (.newarray .long, 2) := by decide +kernel
theorem dX1_init_52 : decode cX1_init 52 = .ok (.putfield 29, 3) := by decide +kernel
theorem dX1_init_55 : decode cX1_init 55 = .ok (.aload_n 0, 1) := by decide +kernel
theorem dX1_init_56 : decode cX1_init 56 = .ok (.bipush 24, 2) := by decide +kernel
theorem dX1_init_58 : decode cX1_init 58 = .ok (.newarray .int, 2) := by decide +kernel
theorem dX1_init_60 : decode cX1_init 60 = .ok (.putfield 33, 3) := by decide +kernel
theorem dX1_init_63 : decode cX1_init 63 = .ok (.aload_n 0, 1) := by decide +kernel
theorem dX1_init_64 : decode cX1_init 64 = .ok (.invokevirtual 36, 3) := by decide +kernel
theorem dX1_init_67 : decode cX1_init 67 = .ok (.return_, 1) := by decide +kernel
theorem dX1_clear_0 : decode cX1_clear 0 = .ok (.iconst 0, 1) := by decide +kernel
theorem dX1_clear_1 : decode cX1_clear 1 = .ok (.istore_n 1, 1) := by decide +kernel
theorem dX1_clear_2 : decode cX1_clear 2 = .ok (.iload_n 1, 1) := by decide +kernel
theorem dX1_clear_3 : decode cX1_clear 3 = .ok (.bipush 24, 2) := by decide +kernel
theorem dX1_clear_5 : decode cX1_clear 5 = .ok (.if_icmp .ge 16, 3) := by decide +kernel
theorem dX1_clear_8 : decode cX1_clear 8 = .ok (.aload_n 0, 1) := by decide +kernel
theorem dX1_clear_9 : decode cX1_clear 9 = .ok (.getfield 16, 3) := by decide +kernel
theorem dX1_clear_12 : decode cX1_clear 12 = .ok (.iload_n 1, 1) := by decide +kernel
theorem dX1_clear_13 : decode cX1_clear 13 = .ok (.iconst 1, 1) := by decide +kernel
theorem dX1_clear_14 : decode cX1_clear 14 = .ok (.iastore, 1) := by decide +kernel
theorem dX1_clear_15 : decode cX1_clear 15 = .ok (.iinc 1 1, 3) := by decide +kernel
theorem dX1_clear_18 : decode cX1_clear 18 = .ok (.goto (-16), 3) := by decide +kernel
theorem dX1_clear_21 : decode cX1_clear 21 = .ok (.aload_n 0, 1) := by decide +kernel
theorem dX1_clear_22 : decode cX1_clear 22 = .ok (.iconst 0, 1) := by decide +kernel
theorem dX1_clear_23 : decode cX1_clear 23 = .ok (.putfield 39, 3) := by decide +kernel
theorem dX1_clear_26 : decode cX1_clear 26 = .ok (.aload_n 0, 1) := by decide +kernel
theorem dX1_clear_27 : decode cX1_clear 27 = .ok (.iconst 0, 1) := by decide +kernel
theorem dX1_clear_28 : decode cX1_clear 28 = .ok (.putfield 42, 3) := by decide +kernel
theorem dX1_clear_31 : decode cX1_clear 31 = .ok (.return_, 1) := by decide +kernel
theorem dX1_size_0 : decode cX1_size 0 = .ok (.iload_n 1, 1) := by decide +kernel
theorem dX1_size_1 : decode cX1_size 1 = .ok (.iconst 1, 1) := by decide +kernel
theorem dX1_size_2 : decode cX1_size 2 = .ok (.if_icmp .lt 18, 3) := by decide +kernel
theorem dX1_size_5 : decode cX1_size 5 = .ok (.iload_n 1, 1) := by decide +kernel
theorem dX1_size_6 : decode cX1_size 6 = .ok (.iconst 3, 1) := by decide +kernel
theorem dX1_size_7 : decode cX1_size 7 = .ok (.if_icmp .gt 13, 3) := by decide +kernel
theorem dX1_size_10 : decode cX1_size 10 = .ok (.iload_n 2, 1) := by decide +kernel
theorem dX1_size_11 : decode cX1_size 11 = .ok (.iconst 1, 1) := by decide +kernel
theorem dX1_size_12 : decode cX1_size 12 = .ok (.if_icmp .lt 8, 3) := by decide +kernel
theorem dX1_size_15 : decode cX1_size 15 = .ok (.iload_n 2, 1) := by decide +kernel
theorem dX1_size_16 : decode cX1_size 16 = .ok (.iconst 4, 1) := by decide +kernel
theorem dX1_size_17 : decode cX1_size 17 = .ok (.if_icmp .le 5, 3) := by decide +kernel
theorem dX1_size_20 : decode cX1_size 20 = .ok (.iconst 0, 1) := by decide +kernel
theorem dX1_size_21 : decode cX1_size 21 = .ok (.ireturn, 1) := by decide +kernel
theorem dX1_size_22 : decode cX1_size 22 = .ok (.aload_n 0, 1) := by decide +kernel
theorem dX1_size_23 : decode cX1_size 23 = .ok (.iload_n 1, 1) := by decide +kernel
theorem dX1_size_24 : decode cX1_size 24 = .ok (.putfield 7, 3) := by decide +kernel
theorem dX1_size_27 : decode cX1_size 27 = .ok (.aload_n 0, 1) := by decide +kernel
theorem dX1_size_28 : decode cX1_size 28 = .ok (.iload_n 2, 1) := by decide +kernel
theorem dX1_size_29 : decode cX1_size 29 = .ok (.putfield 13, 3) := by decide +kernel
theorem dX1_size_32 : decode cX1_size 32 = .ok (.aload_n 0, 1) := by decide +kernel
theorem dX1_size_33 : decode cX1_size 33 = .ok (.invokevirtual 36, 3) := by decide +kernel
theorem dX1_size_36 : decode cX1_size 36 = .ok (.iconst 1, 1) := by decide +kernel
theorem dX1_size_37 : decode cX1_size 37 = .ok (.ireturn, 1) := by decide +kernel
theorem dX1_state_0 : decode cX1_state 0 = .ok (.iload_n 1, 1) := by decide +kernel
theorem dX1_state_1 : decode cX1_state 1 = .ok (.ifCond .lt 15, 3) := by decide +kernel
theorem dX1_state_4 : decode cX1_state 4 = .ok (.iload_n 1, 1) := by decide +kernel
theorem dX1_state_5 : decode cX1_state 5 = .ok (.aload_n 0, 1) := by decide +kernel
theorem dX1_state_6 : decode cX1_state 6 = .ok (.getfield 7, 3) := by decide +kernel
theorem dX1_state_9 : decode cX1_state 9 = .ok (.if_icmp .ge 7, 3) := by decide +kernel
theorem dX1_state_12 : decode cX1_state 12 = .ok (.iconst 1, 1) := by decide +kernel
theorem dX1_state_13 : decode cX1_state 13 = .ok (.goto 4, 3) := by decide +kernel
theorem dX1_state_16 : decode cX1_state 16 = .ok (.iconst 0, 1) := by decide +kernel
theorem dX1_state_17 : decode cX1_state 17 = .ok (.ireturn, 1) := by decide +kernel
theorem dX1_isSymbol_0 : decode cX1_isSymbol 0 = .ok (.iload_n 1, 1) := by decide +kernel
theorem dX1_isSymbol_1 : decode cX1_isSymbol 1 = .ok (.ifCond .lt 15, 3) := by decide +kernel
theorem dX1_isSymbol_4 : decode cX1_isSymbol 4 = .ok (.iload_n 1, 1) := by decide +kernel
theorem dX1_isSymbol_5 : decode cX1_isSymbol 5 = .ok (.aload_n 0, 1) := by decide +kernel
theorem dX1_isSymbol_6 : decode cX1_isSymbol 6 = .ok (.getfield 13, 3) := by decide +kernel
theorem dX1_isSymbol_9 : decode cX1_isSymbol 9 = .ok (.if_icmp .ge 7, 3) := by decide +kernel
theorem dX1_isSymbol_12 : decode cX1_isSymbol 12 = .ok (.iconst 1, 1) := by decide +kernel
theorem dX1_isSymbol_13 : decode cX1_isSymbol 13 = .ok (.goto 4, 3) := by decide +kernel
theorem dX1_isSymbol_16 : decode cX1_isSymbol 16 = .ok (.iconst 0, 1) := by decide +kernel
theorem dX1_isSymbol_17 : decode cX1_isSymbol 17 = .ok (.ireturn, 1) := by decide +kernel
theorem dX1_slot_0 : decode cX1_slot 0 = .ok (.iload_n 1, 1) := by decide +kernel
theorem dX1_slot_1 : decode cX1_slot 1 = .ok (.ifCond .ne 21, 3) := by decide +kernel
theorem dX1_slot_4 : decode cX1_slot 4 = .ok (.iload_n 2, 1) := by decide +kernel
theorem dX1_slot_5 : decode cX1_slot 5 = .ok (.ifCond .ne 15, 3) := by decide +kernel
theorem dX1_slot_8 : decode cX1_slot 8 = .ok (.aload_n 0, 1) := by decide +kernel
theorem dX1_slot_9 : decode cX1_slot 9 = .ok (.iload_n 3, 1) := by decide +kernel
theorem dX1_slot_10 : decode cX1_slot 10 = .ok (.invokevirtual 46, 3) := by decide +kernel
theorem dX1_slot_13 : decode cX1_slot 13 = .ok (.ifCond .eq 7, 3) := by decide +kernel
theorem dX1_slot_16 : decode cX1_slot 16 = .ok (.iload_n 3, 1) := by decide +kernel
theorem dX1_slot_17 : decode cX1_slot 17 = .ok (.goto 4, 3) := by decide +kernel
theorem dX1_slot_20 : decode cX1_slot 20 = .ok (.iconst (-1), 1) := by decide +kernel
theorem dX1_slot_21 : decode cX1_slot 21 = .ok (.ireturn, 1) := by decide +kernel
theorem dX1_slot_22 : decode cX1_slot 22 = .ok (.aload_n 0, 1) := by decide +kernel
theorem dX1_slot_23 : decode cX1_slot 23 = .ok (.iload_n 2, 1) := by decide +kernel
theorem dX1_slot_24 : decode cX1_slot 24 = .ok (.invokevirtual 46, 3) := by decide +kernel
theorem dX1_slot_27 : decode cX1_slot 27 = .ok (.ifCond .ne 5, 3) := by decide +kernel
theorem dX1_slot_30 : decode cX1_slot 30 = .ok (.iconst (-1), 1) := by decide +kernel
theorem dX1_slot_31 : decode cX1_slot 31 = .ok (.ireturn, 1) := by decide +kernel
theorem dX1_slot_32 : decode cX1_slot 32 = .ok (.iload_n 1, 1) := by decide +kernel
theorem dX1_slot_33 : decode cX1_slot 33 = .ok (.iconst 1, 1) := by decide +kernel
theorem dX1_slot_34 : decode cX1_slot 34 = .ok (.if_icmp .ne 23, 3) := by decide +kernel
theorem dX1_slot_37 : decode cX1_slot 37 = .ok (.aload_n 0, 1) := by decide +kernel
theorem dX1_slot_38 : decode cX1_slot 38 = .ok (.iload_n 3, 1) := by decide +kernel
theorem dX1_slot_39 : decode cX1_slot 39 = .ok (.invokevirtual 46, 3) := by decide +kernel
theorem dX1_slot_42 : decode cX1_slot 42 = .ok (.ifCond .eq 13, 3) := by decide +kernel
theorem dX1_slot_45 : decode cX1_slot 45 = .ok (.iconst 3, 1) := by decide +kernel
theorem dX1_slot_46 : decode cX1_slot 46 = .ok (.iconst 3, 1) := by decide +kernel
theorem dX1_slot_47 : decode cX1_slot 47 = .ok (.iload_n 2, 1) := by decide +kernel
theorem dX1_slot_48 : decode cX1_slot 48 = .ok (.imul, 1) := by decide +kernel
theorem dX1_slot_49 : decode cX1_slot 49 = .ok (.iadd, 1) := by decide +kernel
theorem dX1_slot_50 : decode cX1_slot 50 = .ok (.iload_n 3, 1) := by decide +kernel
theorem dX1_slot_51 : decode cX1_slot 51 = .ok (.iadd, 1) := by decide +kernel
theorem dX1_slot_52 : decode cX1_slot 52 = .ok (.goto 4, 3) := by decide +kernel
theorem dX1_slot_55 : decode cX1_slot 55 = .ok (.iconst (-1), 1) := by decide +kernel
theorem dX1_slot_56 : decode cX1_slot 56 = .ok (.ireturn, 1) := by decide +kernel
theorem dX1_slot_57 : decode cX1_slot 57 = .ok (.iload_n 1, 1) := by decide +kernel
theorem dX1_slot_58 : decode cX1_slot 58 = .ok (.iconst 2, 1) := by decide +kernel
theorem dX1_slot_59 : decode cX1_slot 59 = .ok (.if_icmp .ne 22, 3) := by decide +kernel
theorem dX1_slot_62 : decode cX1_slot 62 = .ok (.aload_n 0, 1) := by decide +kernel
theorem dX1_slot_63 : decode cX1_slot 63 = .ok (.iload_n 3, 1) := by decide +kernel
theorem dX1_slot_64 : decode cX1_slot 64 = .ok (.invokevirtual 50, 3) := by decide +kernel
theorem dX1_slot_67 : decode cX1_slot 67 = .ok (.ifCond .eq 14, 3) := by decide +kernel
theorem dX1_slot_70 : decode cX1_slot 70 = .ok (.bipush 12, 2) := by decide +kernel
theorem dX1_slot_72 : decode cX1_slot 72 = .ok (.iconst 4, 1) := by decide +kernel
theorem dX1_slot_73 : decode cX1_slot 73 = .ok (.iload_n 2, 1) := by decide +kernel
theorem dX1_slot_74 : decode cX1_slot 74 = .ok (.imul, 1) := by decide +kernel
theorem dX1_slot_75 : decode cX1_slot 75 = .ok (.iadd, 1) := by decide +kernel
theorem dX1_slot_76 : decode cX1_slot 76 = .ok (.iload_n 3, 1) := by decide +kernel
theorem dX1_slot_77 : decode cX1_slot 77 = .ok (.iadd, 1) := by decide +kernel
theorem dX1_slot_78 : decode cX1_slot 78 = .ok (.goto 4, 3) := by decide +kernel
theorem dX1_slot_81 : decode cX1_slot 81 = .ok (.iconst (-1), 1) := by decide +kernel
theorem dX1_slot_82 : decode cX1_slot 82 = .ok (.ireturn, 1) := by decide +kernel
theorem dX1_weigh_0 : decode cX1_weigh 0 = .ok (.aload_n 0, 1) := by decide +kernel
theorem dX1_weigh_1 : decode cX1_weigh 1 = .ok (.iload_n 1, 1) := by decide +kernel
theorem dX1_weigh_2 : decode cX1_weigh 2 = .ok (.iload_n 2, 1) := by decide +kernel
theorem dX1_weigh_3 : decode cX1_weigh 3 = .ok (.iload_n 3, 1) := by decide +kernel
theorem dX1_weigh_4 : decode cX1_weigh 4 = .ok (.invokevirtual 53, 3) := by decide +kernel
theorem dX1_weigh_7 : decode cX1_weigh 7 = .ok (.istore 5, 2) := by decide +kernel
theorem dX1_weigh_9 : decode cX1_weigh 9 = .ok (.iload 5, 2) := by decide +kernel
theorem dX1_weigh_11 : decode cX1_weigh 11 = .ok (.ifCond .lt 15, 3) := by decide +kernel
theorem dX1_weigh_14 : decode cX1_weigh 14 = .ok (.iload 4, 2) := by decide +kernel
theorem dX1_weigh_16 : decode cX1_weigh 16 = .ok (.ifCond .lt 10, 3) := by decide +kernel
theorem dX1_weigh_19 : decode cX1_weigh 19 = .ok (.iload 4, 2) := by decide +kernel
theorem dX1_weigh_21 : decode cX1_weigh 21 = .ok (.bipush 9, 2) := by decide +kernel
theorem dX1_weigh_23 : decode cX1_weigh 23 = .ok (.if_icmp .le 5, 3) := by decide +kernel
theorem dX1_weigh_26 : decode cX1_weigh 26 = .ok (.iconst 0, 1) := by decide +kernel
theorem dX1_weigh_27 : decode cX1_weigh 27 = .ok (.ireturn, 1) := by decide +kernel
theorem dX1_weigh_28 : decode cX1_weigh 28 = .ok (.aload_n 0, 1) := by decide +kernel
theorem dX1_weigh_29 : decode cX1_weigh 29 = .ok (.getfield 16, 3) := by decide +kernel
theorem dX1_weigh_32 : decode cX1_weigh 32 = .ok (.iload 5, 2) := by decide +kernel
theorem dX1_weigh_34 : decode cX1_weigh 34 = .ok (.iload 4, 2) := by decide +kernel
theorem dX1_weigh_36 : decode cX1_weigh 36 = .ok (.iastore, 1) := by decide +kernel
theorem dX1_weigh_37 : decode cX1_weigh 37 = .ok (.iconst 1, 1) := by decide +kernel
theorem dX1_weigh_38 : decode cX1_weigh 38 = .ok (.ireturn, 1) := by decide +kernel
theorem dX1_weight_0 : decode cX1_weight 0 = .ok (.aload_n 0, 1) := by decide +kernel
theorem dX1_weight_1 : decode cX1_weight 1 = .ok (.iload_n 1, 1) := by decide +kernel
theorem dX1_weight_2 : decode cX1_weight 2 = .ok (.iload_n 2, 1) := by decide +kernel
theorem dX1_weight_3 : decode cX1_weight 3 = .ok (.iload_n 3, 1) := by decide +kernel
theorem dX1_weight_4 : decode cX1_weight 4 = .ok (.invokevirtual 53, 3) := by decide +kernel
theorem dX1_weight_7 : decode cX1_weight 7 = .ok (.istore 4, 2) := by decide +kernel
theorem dX1_weight_9 : decode cX1_weight 9 = .ok (.iload 4, 2) := by decide +kernel
theorem dX1_weight_11 : decode cX1_weight 11 = .ok (.ifCond .ge 7, 3) := by decide +kernel
theorem dX1_weight_14 : decode cX1_weight 14 = .ok (.iconst (-1), 1) := by decide +kernel
theorem dX1_weight_15 : decode cX1_weight 15 = .ok (.goto 10, 3) := by decide +kernel
theorem dX1_weight_18 : decode cX1_weight 18 = .ok (.aload_n 0, 1) := by decide +kernel
theorem dX1_weight_19 : decode cX1_weight 19 = .ok (.getfield 16, 3) := by decide +kernel
theorem dX1_weight_22 : decode cX1_weight 22 = .ok (.iload 4, 2) := by decide +kernel
theorem dX1_weight_24 : decode cX1_weight 24 = .ok (.iaload, 1) := by decide +kernel
theorem dX1_weight_25 : decode cX1_weight 25 = .ok (.ireturn, 1) := by decide +kernel
theorem dX1_see_0 : decode cX1_see 0 = .ok (.aload_n 0, 1) := by decide +kernel
theorem dX1_see_1 : decode cX1_see 1 = .ok (.iload_n 1, 1) := by decide +kernel
theorem dX1_see_2 : decode cX1_see 2 = .ok (.invokevirtual 50, 3) := by decide +kernel
theorem dX1_see_5 : decode cX1_see 5 = .ok (.ifCond .eq 12, 3) := by decide +kernel
theorem dX1_see_8 : decode cX1_see 8 = .ok (.aload_n 0, 1) := by decide +kernel
theorem dX1_see_9 : decode cX1_see 9 = .ok (.getfield 39, 3) := by decide +kernel
theorem dX1_see_12 : decode cX1_see 12 = .ok (.bipush 6, 2) := by decide +kernel
theorem dX1_see_14 : decode cX1_see 14 = .ok (.if_icmp .ne 5, 3) := by decide +kernel
theorem dX1_see_17 : decode cX1_see 17 = .ok (.iconst (-1), 1) := by decide +kernel
theorem dX1_see_18 : decode cX1_see 18 = .ok (.ireturn, 1) := by decide +kernel
theorem dX1_see_19 : decode cX1_see 19 = .ok (.aload_n 0, 1) := by decide +kernel
theorem dX1_see_20 : decode cX1_see 20 = .ok (.getfield 20, 3) := by decide +kernel
theorem dX1_see_23 : decode cX1_see 23 = .ok (.aload_n 0, 1) := by decide +kernel
theorem dX1_see_24 : decode cX1_see 24 = .ok (.getfield 39, 3) := by decide +kernel
theorem dX1_see_27 : decode cX1_see 27 = .ok (.iload_n 1, 1) := by decide +kernel
theorem dX1_see_28 : decode cX1_see 28 = .ok (.iastore, 1) := by decide +kernel
theorem dX1_see_29 : decode cX1_see 29 = .ok (.aload_n 0, 1) := by decide +kernel
theorem dX1_see_30 : decode cX1_see 30 = .ok (.dup, 1) := by decide +kernel
theorem dX1_see_31 : decode cX1_see 31 = .ok (.getfield 39, 3) := by decide +kernel
theorem dX1_see_34 : decode cX1_see 34 = .ok (.iconst 1, 1) := by decide +kernel
theorem dX1_see_35 : decode cX1_see 35 = .ok (.iadd, 1) := by decide +kernel
theorem dX1_see_36 : decode cX1_see 36 = .ok (.putfield 39, 3) := by decide +kernel
theorem dX1_see_39 : decode cX1_see 39 = .ok (.aload_n 0, 1) := by decide +kernel
theorem dX1_see_40 : decode cX1_see 40 = .ok (.getfield 39, 3) := by decide +kernel
theorem dX1_see_43 : decode cX1_see 43 = .ok (.ireturn, 1) := by decide +kernel
theorem dX1_forget_0 : decode cX1_forget 0 = .ok (.iload_n 1, 1) := by decide +kernel
theorem dX1_forget_1 : decode cX1_forget 1 = .ok (.ifCond .lt 11, 3) := by decide +kernel
theorem dX1_forget_4 : decode cX1_forget 4 = .ok (.iload_n 1, 1) := by decide +kernel
theorem dX1_forget_5 : decode cX1_forget 5 = .ok (.aload_n 0, 1) := by decide +kernel
theorem dX1_forget_6 : decode cX1_forget 6 = .ok (.getfield 39, 3) := by decide +kernel
theorem dX1_forget_9 : decode cX1_forget 9 = .ok (.if_icmp .le 5, 3) := by decide +kernel
theorem dX1_forget_12 : decode cX1_forget 12 = .ok (.iconst (-1), 1) := by decide +kernel
theorem dX1_forget_13 : decode cX1_forget 13 = .ok (.ireturn, 1) := by decide +kernel
theorem dX1_forget_14 : decode cX1_forget 14 = .ok (.aload_n 0, 1) := by decide +kernel
theorem dX1_forget_15 : decode cX1_forget 15 = .ok (.getfield 39, 3) := by decide +kernel
theorem dX1_forget_18 : decode cX1_forget 18 = .ok (.iload_n 1, 1) := by decide +kernel
theorem dX1_forget_19 : decode cX1_forget 19 = .ok (.isub, 1) := by decide +kernel
theorem dX1_forget_20 : decode cX1_forget 20 = .ok (.istore_n 2, 1) := by decide +kernel
theorem dX1_forget_21 : decode cX1_forget 21 = .ok (.aload_n 0, 1) := by decide +kernel
theorem dX1_forget_22 : decode cX1_forget 22 = .ok (.iload_n 1, 1) := by decide +kernel
theorem dX1_forget_23 : decode cX1_forget 23 = .ok (.putfield 39, 3) := by decide +kernel
theorem dX1_forget_26 : decode cX1_forget 26 = .ok (.iload_n 2, 1) := by decide +kernel
theorem dX1_forget_27 : decode cX1_forget 27 = .ok (.ireturn, 1) := by decide +kernel
theorem dX1_seen_0 : decode cX1_seen 0 = .ok (.aload_n 0, 1) := by decide +kernel
theorem dX1_seen_1 : decode cX1_seen 1 = .ok (.getfield 39, 3) := by decide +kernel
theorem dX1_seen_4 : decode cX1_seen 4 = .ok (.ireturn, 1) := by decide +kernel
theorem dX1_symbol_0 : decode cX1_symbol 0 = .ok (.iload_n 1, 1) := by decide +kernel
theorem dX1_symbol_1 : decode cX1_symbol 1 = .ok (.ifCond .lt 11, 3) := by decide +kernel
theorem dX1_symbol_4 : decode cX1_symbol 4 = .ok (.iload_n 1, 1) := by decide +kernel
theorem dX1_symbol_5 : decode cX1_symbol 5 = .ok (.aload_n 0, 1) := by decide +kernel
theorem dX1_symbol_6 : decode cX1_symbol 6 = .ok (.getfield 39, 3) := by decide +kernel
theorem dX1_symbol_9 : decode cX1_symbol 9 = .ok (.if_icmp .lt 7, 3) := by decide +kernel
theorem dX1_symbol_12 : decode cX1_symbol 12 = .ok (.iconst (-1), 1) := by decide +kernel
theorem dX1_symbol_13 : decode cX1_symbol 13 = .ok (.goto 9, 3) := by decide +kernel
theorem dX1_symbol_16 : decode cX1_symbol 16 = .ok (.aload_n 0, 1) := by decide +kernel
theorem dX1_symbol_17 : decode cX1_symbol 17 = .ok (.getfield 20, 3) := by decide +kernel
theorem dX1_symbol_20 : decode cX1_symbol 20 = .ok (.iload_n 1, 1) := by decide +kernel
theorem dX1_symbol_21 : decode cX1_symbol 21 = .ok (.iaload, 1) := by decide +kernel
theorem dX1_symbol_22 : decode cX1_symbol 22 = .ok (.ireturn, 1) := by decide +kernel
theorem dX1_power_0 : decode cX1_power 0 = .ok (.iconst 1, 1) := by decide +kernel
theorem dX1_power_1 : decode cX1_power 1 = .ok (.istore_n 2, 1) := by decide +kernel
theorem dX1_power_2 : decode cX1_power 2 = .ok (.iconst 0, 1) := by decide +kernel
theorem dX1_power_3 : decode cX1_power 3 = .ok (.istore_n 3, 1) := by decide +kernel
theorem dX1_power_4 : decode cX1_power 4 = .ok (.iload_n 3, 1) := by decide +kernel
theorem dX1_power_5 : decode cX1_power 5 = .ok (.iload_n 1, 1) := by decide +kernel
theorem dX1_power_6 : decode cX1_power 6 = .ok (.if_icmp .ge 16, 3) := by decide +kernel
theorem dX1_power_9 : decode cX1_power 9 = .ok (.iload_n 2, 1) := by decide +kernel
theorem dX1_power_10 : decode cX1_power 10 = .ok (.aload_n 0, 1) := by decide +kernel
theorem dX1_power_11 : decode cX1_power 11 = .ok (.getfield 7, 3) := by decide +kernel
theorem dX1_power_14 : decode cX1_power 14 = .ok (.imul, 1) := by decide +kernel
theorem dX1_power_15 : decode cX1_power 15 = .ok (.istore_n 2, 1) := by decide +kernel
theorem dX1_power_16 : decode cX1_power 16 = .ok (.iinc 3 1, 3) := by decide +kernel
theorem dX1_power_19 : decode cX1_power 19 = .ok (.goto (-15), 3) := by decide +kernel
theorem dX1_power_22 : decode cX1_power 22 = .ok (.iload_n 2, 1) := by decide +kernel
theorem dX1_power_23 : decode cX1_power 23 = .ok (.ireturn, 1) := by decide +kernel
theorem dX1_spell_0 : decode cX1_spell 0 = .ok (.iload_n 1, 1) := by decide +kernel
theorem dX1_spell_1 : decode cX1_spell 1 = .ok (.istore 4, 2) := by decide +kernel
theorem dX1_spell_3 : decode cX1_spell 3 = .ok (.iload_n 3, 1) := by decide +kernel
theorem dX1_spell_4 : decode cX1_spell 4 = .ok (.istore 5, 2) := by decide +kernel
theorem dX1_spell_6 : decode cX1_spell 6 = .ok (.iload 5, 2) := by decide +kernel
theorem dX1_spell_8 : decode cX1_spell 8 = .ok (.iload_n 2, 1) := by decide +kernel
theorem dX1_spell_9 : decode cX1_spell 9 = .ok (.if_icmp .lt 32, 3) := by decide +kernel
theorem dX1_spell_12 : decode cX1_spell 12 = .ok (.aload_n 0, 1) := by decide +kernel
theorem dX1_spell_13 : decode cX1_spell 13 = .ok (.getfield 23, 3) := by decide +kernel
theorem dX1_spell_16 : decode cX1_spell 16 = .ok (.iload 5, 2) := by decide +kernel
theorem dX1_spell_18 : decode cX1_spell 18 = .ok (.iload 4, 2) := by decide +kernel
theorem dX1_spell_20 : decode cX1_spell 20 = .ok (.aload_n 0, 1) := by decide +kernel
theorem dX1_spell_21 : decode cX1_spell 21 = .ok (.getfield 7, 3) := by decide +kernel
theorem dX1_spell_24 : decode cX1_spell 24 = .ok (.irem, 1) := by decide +kernel
theorem dX1_spell_25 : decode cX1_spell 25 = .ok (.iastore, 1) := by decide +kernel
theorem dX1_spell_26 : decode cX1_spell 26 = .ok (.iload 4, 2) := by decide +kernel
theorem dX1_spell_28 : decode cX1_spell 28 = .ok (.aload_n 0, 1) := by decide +kernel
theorem dX1_spell_29 : decode cX1_spell 29 = .ok (.getfield 7, 3) := by decide +kernel
theorem dX1_spell_32 : decode cX1_spell 32 = .ok (.idiv, 1) := by decide +kernel
theorem dX1_spell_33 : decode cX1_spell 33 = .ok (.istore 4, 2) := by decide +kernel
theorem dX1_spell_35 : decode cX1_spell 35 = .ok (.iinc 5 (-1), 3) := by decide +kernel
theorem dX1_spell_38 : decode cX1_spell 38 = .ok (.goto (-32), 3) := by decide +kernel
theorem dX1_spell_41 : decode cX1_spell 41 = .ok (.return_, 1) := by decide +kernel
theorem dX1_product_0 : decode cX1_product 0 = .ok (.lconst 1, 1) := by decide +kernel
theorem dX1_product_1 : decode cX1_product 1 = .ok (.lstore_n 3, 1) := by decide +kernel
theorem dX1_product_2 : decode cX1_product 2 = .ok (.iload_n 1, 1) := by decide +kernel
theorem dX1_product_3 : decode cX1_product 3 = .ok (.istore 5, 2) := by decide +kernel
theorem dX1_product_5 : decode cX1_product 5 = .ok (.iload 5, 2) := by decide +kernel
theorem dX1_product_7 : decode cX1_product 7 = .ok (.iload_n 2, 1) := by decide +kernel
theorem dX1_product_8 : decode cX1_product 8 = .ok (.if_icmp .gt 84, 3) := by decide +kernel
theorem dX1_product_11 : decode cX1_product 11 = .ok (.iload 5, 2) := by decide +kernel
theorem dX1_product_13 : decode cX1_product 13 = .ok (.ifCond .ne 12, 3) := by decide +kernel
theorem dX1_product_16 : decode cX1_product 16 = .ok (.aload_n 0, 1) := by decide +kernel
theorem dX1_product_17 : decode cX1_product 17 = .ok (.getfield 23, 3) := by decide +kernel
theorem dX1_product_20 : decode cX1_product 20 = .ok (.iconst 0, 1) := by decide +kernel
theorem dX1_product_21 : decode cX1_product 21 = .ok (.iaload, 1) := by decide +kernel
theorem dX1_product_22 : decode cX1_product 22 = .ok (.goto 24, 3) := by decide +kernel
theorem dX1_product_25 : decode cX1_product 25 = .ok (.iconst 3, 1) := by decide +kernel
theorem dX1_product_26 : decode cX1_product 26 = .ok (.iconst 3, 1) := by decide +kernel
theorem dX1_product_27 : decode cX1_product 27 = .ok (.aload_n 0, 1) := by decide +kernel
theorem dX1_product_28 : decode cX1_product 28 = .ok (.getfield 23, 3) := by decide +kernel
theorem dX1_product_31 : decode cX1_product 31 = .ok (.iload 5, 2) := by decide +kernel
theorem dX1_product_33 : decode cX1_product 33 = .ok (.iconst 1, 1) := by decide +kernel
theorem dX1_product_34 : decode cX1_product 34 = .ok (.isub, 1) := by decide +kernel
theorem dX1_product_35 : decode cX1_product 35 = .ok (.iaload, 1) := by decide +kernel
theorem dX1_product_36 : decode cX1_product 36 = .ok (.imul, 1) := by decide +kernel
theorem dX1_product_37 : decode cX1_product 37 = .ok (.iadd, 1) := by decide +kernel
theorem dX1_product_38 : decode cX1_product 38 = .ok (.aload_n 0, 1) := by decide +kernel
theorem dX1_product_39 : decode cX1_product 39 = .ok (.getfield 23, 3) := by decide +kernel
theorem dX1_product_42 : decode cX1_product 42 = .ok (.iload 5, 2) := by decide +kernel
theorem dX1_product_44 : decode cX1_product 44 = .ok (.iaload, 1) := by decide +kernel
theorem dX1_product_45 : decode cX1_product 45 = .ok (.iadd, 1) := by decide +kernel
theorem dX1_product_46 : decode cX1_product 46 = .ok (.istore 6, 2) := by decide +kernel
theorem dX1_product_48 : decode cX1_product 48 = .ok (.lload_n 3, 1) := by decide +kernel
theorem dX1_product_49 : decode cX1_product 49 = .ok (.aload_n 0, 1) := by decide +kernel
theorem dX1_product_50 : decode cX1_product 50 = .ok (.getfield 16, 3) := by decide +kernel
theorem dX1_product_53 : decode cX1_product 53 = .ok (.iload 6, 2) := by decide +kernel
theorem dX1_product_55 : decode cX1_product 55 = .ok (.iaload, 1) := by decide +kernel
theorem dX1_product_56 : decode cX1_product 56 = .ok (.i2l, 1) := by decide +kernel
theorem dX1_product_57 : decode cX1_product 57 = .ok (.lmul, 1) := by decide +kernel
theorem dX1_product_58 : decode cX1_product 58 = .ok (.aload_n 0, 1) := by decide +kernel
theorem dX1_product_59 : decode cX1_product 59 = .ok (.getfield 16, 3) := by decide +kernel
theorem dX1_product_62 : decode cX1_product 62 = .ok (.bipush 12, 2) := by decide +kernel
theorem dX1_product_64 : decode cX1_product 64 = .ok (.iconst 4, 1) := by decide +kernel
theorem dX1_product_65 : decode cX1_product 65 = .ok (.aload_n 0, 1) := by decide +kernel
theorem dX1_product_66 : decode cX1_product 66 = .ok (.getfield 23, 3) := by decide +kernel
theorem dX1_product_69 : decode cX1_product 69 = .ok (.iload 5, 2) := by decide +kernel
theorem dX1_product_71 : decode cX1_product 71 = .ok (.iaload, 1) := by decide +kernel
theorem dX1_product_72 : decode cX1_product 72 = .ok (.imul, 1) := by decide +kernel
theorem dX1_product_73 : decode cX1_product 73 = .ok (.iadd, 1) := by decide +kernel
theorem dX1_product_74 : decode cX1_product 74 = .ok (.aload_n 0, 1) := by decide +kernel
theorem dX1_product_75 : decode cX1_product 75 = .ok (.getfield 20, 3) := by decide +kernel
theorem dX1_product_78 : decode cX1_product 78 = .ok (.iload 5, 2) := by decide +kernel
theorem dX1_product_80 : decode cX1_product 80 = .ok (.iaload, 1) := by decide +kernel
theorem dX1_product_81 : decode cX1_product 81 = .ok (.iadd, 1) := by decide +kernel
theorem dX1_product_82 : decode cX1_product 82 = .ok (.iaload, 1) := by decide +kernel
theorem dX1_product_83 : decode cX1_product 83 = .ok (.i2l, 1) := by decide +kernel
theorem dX1_product_84 : decode cX1_product 84 = .ok (.lmul, 1) := by decide +kernel
theorem dX1_product_85 : decode cX1_product 85 = .ok (.lstore_n 3, 1) := by decide +kernel
theorem dX1_product_86 : decode cX1_product 86 = .ok (.iinc 5 1, 3) := by decide +kernel
theorem dX1_product_89 : decode cX1_product 89 = .ok (.goto (-84), 3) := by decide +kernel
theorem dX1_product_92 : decode cX1_product 92 = .ok (.lload_n 3, 1) := by decide +kernel
theorem dX1_product_93 : decode cX1_product 93 = .ok (.lreturn, 1) := by decide +kernel
theorem dX1_weightOf_0 : decode cX1_weightOf 0 = .ok (.aload_n 0, 1) := by decide +kernel
theorem dX1_weightOf_1 : decode cX1_weightOf 1 = .ok (.iload_n 1, 1) := by decide +kernel
theorem dX1_weightOf_2 : decode cX1_weightOf 2 = .ok (.iconst 0, 1) := by decide +kernel
theorem dX1_weightOf_3 : decode cX1_weightOf 3 = .ok (.aload_n 0, 1) := by decide +kernel
theorem dX1_weightOf_4 : decode cX1_weightOf 4 = .ok (.getfield 39, 3) := by decide +kernel
theorem dX1_weightOf_7 : decode cX1_weightOf 7 = .ok (.iconst 1, 1) := by decide +kernel
theorem dX1_weightOf_8 : decode cX1_weightOf 8 = .ok (.isub, 1) := by decide +kernel
theorem dX1_weightOf_9 : decode cX1_weightOf 9 = .ok (.invokevirtual 57, 3) := by decide +kernel
theorem dX1_weightOf_12 : decode cX1_weightOf 12 = .ok (.aload_n 0, 1) := by decide +kernel
theorem dX1_weightOf_13 : decode cX1_weightOf 13 = .ok (.iconst 0, 1) := by decide +kernel
theorem dX1_weightOf_14 : decode cX1_weightOf 14 = .ok (.aload_n 0, 1) := by decide +kernel
theorem dX1_weightOf_15 : decode cX1_weightOf 15 = .ok (.getfield 39, 3) := by decide +kernel
theorem dX1_weightOf_18 : decode cX1_weightOf 18 = .ok (.iconst 1, 1) := by decide +kernel
theorem dX1_weightOf_19 : decode cX1_weightOf 19 = .ok (.isub, 1) := by decide +kernel
theorem dX1_weightOf_20 : decode cX1_weightOf 20 = .ok (.invokevirtual 61, 3) := by decide +kernel
theorem dX1_weightOf_23 : decode cX1_weightOf 23 = .ok (.lreturn, 1) := by decide +kernel
theorem dX1_total_0 : decode cX1_total 0 = .ok (.lconst 0, 1) := by decide +kernel
theorem dX1_total_1 : decode cX1_total 1 = .ok (.lstore_n 1, 1) := by decide +kernel
theorem dX1_total_2 : decode cX1_total 2 = .ok (.aload_n 0, 1) := by decide +kernel
theorem dX1_total_3 : decode cX1_total 3 = .ok (.aload_n 0, 1) := by decide +kernel
theorem dX1_total_4 : decode cX1_total 4 = .ok (.getfield 39, 3) := by decide +kernel
theorem dX1_total_7 : decode cX1_total 7 = .ok (.invokevirtual 65, 3) := by decide +kernel
theorem dX1_total_10 : decode cX1_total 10 = .ok (.istore_n 3, 1) := by decide +kernel
theorem dX1_total_11 : decode cX1_total 11 = .ok (.iconst 0, 1) := by decide +kernel
theorem dX1_total_12 : decode cX1_total 12 = .ok (.istore 4, 2) := by decide +kernel
theorem dX1_total_14 : decode cX1_total 14 = .ok (.iload 4, 2) := by decide +kernel
theorem dX1_total_16 : decode cX1_total 16 = .ok (.iload_n 3, 1) := by decide +kernel
theorem dX1_total_17 : decode cX1_total 17 = .ok (.if_icmp .ge 18, 3) := by decide +kernel
theorem dX1_total_20 : decode cX1_total 20 = .ok (.lload_n 1, 1) := by decide +kernel
theorem dX1_total_21 : decode cX1_total 21 = .ok (.aload_n 0, 1) := by decide +kernel
theorem dX1_total_22 : decode cX1_total 22 = .ok (.iload 4, 2) := by decide +kernel
theorem dX1_total_24 : decode cX1_total 24 = .ok (.invokevirtual 69, 3) := by decide +kernel
theorem dX1_total_27 : decode cX1_total 27 = .ok (.ladd, 1) := by decide +kernel
theorem dX1_total_28 : decode cX1_total 28 = .ok (.lstore_n 1, 1) := by decide +kernel
theorem dX1_total_29 : decode cX1_total 29 = .ok (.iinc 4 1, 3) := by decide +kernel
theorem dX1_total_32 : decode cX1_total 32 = .ok (.goto (-18), 3) := by decide +kernel
theorem dX1_total_35 : decode cX1_total 35 = .ok (.lload_n 1, 1) := by decide +kernel
theorem dX1_total_36 : decode cX1_total 36 = .ok (.lreturn, 1) := by decide +kernel
theorem dX1_before_0 : decode cX1_before 0 = .ok (.iload_n 1, 1) := by decide +kernel
theorem dX1_before_1 : decode cX1_before 1 = .ok (.ifCond .lt 19, 3) := by decide +kernel
theorem dX1_before_4 : decode cX1_before 4 = .ok (.iload_n 1, 1) := by decide +kernel
theorem dX1_before_5 : decode cX1_before 5 = .ok (.aload_n 0, 1) := by decide +kernel
theorem dX1_before_6 : decode cX1_before 6 = .ok (.getfield 39, 3) := by decide +kernel
theorem dX1_before_9 : decode cX1_before 9 = .ok (.if_icmp .ge 11, 3) := by decide +kernel
theorem dX1_before_12 : decode cX1_before 12 = .ok (.aload_n 0, 1) := by decide +kernel
theorem dX1_before_13 : decode cX1_before 13 = .ok (.iload_n 2, 1) := by decide +kernel
theorem dX1_before_14 : decode cX1_before 14 = .ok (.invokevirtual 46, 3) := by decide +kernel
theorem dX1_before_17 : decode cX1_before 17 = .ok (.ifCond .ne 5, 3) := by decide +kernel
theorem dX1_before_20 : decode cX1_before 20 = .ok (.lconst 0, 1) := by decide +kernel
theorem dX1_before_21 : decode cX1_before 21 = .ok (.lreturn, 1) := by decide +kernel
theorem dX1_before_22 : decode cX1_before 22 = .ok (.lconst 0, 1) := by decide +kernel
theorem dX1_before_23 : decode cX1_before 23 = .ok (.lstore_n 3, 1) := by decide +kernel
theorem dX1_before_24 : decode cX1_before 24 = .ok (.aload_n 0, 1) := by decide +kernel
theorem dX1_before_25 : decode cX1_before 25 = .ok (.iload_n 1, 1) := by decide +kernel
theorem dX1_before_26 : decode cX1_before 26 = .ok (.invokevirtual 65, 3) := by decide +kernel
theorem dX1_before_29 : decode cX1_before 29 = .ok (.istore 5, 2) := by decide +kernel
theorem dX1_before_31 : decode cX1_before 31 = .ok (.iconst 0, 1) := by decide +kernel
theorem dX1_before_32 : decode cX1_before 32 = .ok (.istore 6, 2) := by decide +kernel
theorem dX1_before_34 : decode cX1_before 34 = .ok (.iload 6, 2) := by decide +kernel
theorem dX1_before_36 : decode cX1_before 36 = .ok (.iload 5, 2) := by decide +kernel
theorem dX1_before_38 : decode cX1_before 38 = .ok (.if_icmp .ge 35, 3) := by decide +kernel
theorem dX1_before_41 : decode cX1_before 41 = .ok (.aload_n 0, 1) := by decide +kernel
theorem dX1_before_42 : decode cX1_before 42 = .ok (.iload 6, 2) := by decide +kernel
theorem dX1_before_44 : decode cX1_before 44 = .ok (.iconst 0, 1) := by decide +kernel
theorem dX1_before_45 : decode cX1_before 45 = .ok (.iload_n 1, 1) := by decide +kernel
theorem dX1_before_46 : decode cX1_before 46 = .ok (.iconst 1, 1) := by decide +kernel
theorem dX1_before_47 : decode cX1_before 47 = .ok (.isub, 1) := by decide +kernel
theorem dX1_before_48 : decode cX1_before 48 = .ok (.invokevirtual 57, 3) := by decide +kernel
theorem dX1_before_51 : decode cX1_before 51 = .ok (.aload_n 0, 1) := by decide +kernel
theorem dX1_before_52 : decode cX1_before 52 = .ok (.getfield 23, 3) := by decide +kernel
theorem dX1_before_55 : decode cX1_before 55 = .ok (.iload_n 1, 1) := by decide +kernel
theorem dX1_before_56 : decode cX1_before 56 = .ok (.iload_n 2, 1) := by decide +kernel
theorem dX1_before_57 : decode cX1_before 57 = .ok (.iastore, 1) := by decide +kernel
theorem dX1_before_58 : decode cX1_before 58 = .ok (.lload_n 3, 1) := by decide +kernel
theorem dX1_before_59 : decode cX1_before 59 = .ok (.aload_n 0, 1) := by decide +kernel
theorem dX1_before_60 : decode cX1_before 60 = .ok (.iconst 0, 1) := by decide +kernel
theorem dX1_before_61 : decode cX1_before 61 = .ok (.iload_n 1, 1) := by decide +kernel
theorem dX1_before_62 : decode cX1_before 62 = .ok (.invokevirtual 61, 3) := by decide +kernel
theorem dX1_before_65 : decode cX1_before 65 = .ok (.ladd, 1) := by decide +kernel
theorem dX1_before_66 : decode cX1_before 66 = .ok (.lstore_n 3, 1) := by decide +kernel
theorem dX1_before_67 : decode cX1_before 67 = .ok (.iinc 6 1, 3) := by decide +kernel
theorem dX1_before_70 : decode cX1_before 70 = .ok (.goto (-36), 3) := by decide +kernel
theorem dX1_before_73 : decode cX1_before 73 = .ok (.lload_n 3, 1) := by decide +kernel
theorem dX1_before_74 : decode cX1_before 74 = .ok (.lreturn, 1) := by decide +kernel
theorem dX1_behind_0 : decode cX1_behind 0 = .ok (.iload_n 1, 1) := by decide +kernel
theorem dX1_behind_1 : decode cX1_behind 1 = .ok (.ifCond .lt 19, 3) := by decide +kernel
theorem dX1_behind_4 : decode cX1_behind 4 = .ok (.iload_n 1, 1) := by decide +kernel
theorem dX1_behind_5 : decode cX1_behind 5 = .ok (.aload_n 0, 1) := by decide +kernel
theorem dX1_behind_6 : decode cX1_behind 6 = .ok (.getfield 39, 3) := by decide +kernel
theorem dX1_behind_9 : decode cX1_behind 9 = .ok (.if_icmp .ge 11, 3) := by decide +kernel
theorem dX1_behind_12 : decode cX1_behind 12 = .ok (.aload_n 0, 1) := by decide +kernel
theorem dX1_behind_13 : decode cX1_behind 13 = .ok (.iload_n 2, 1) := by decide +kernel
theorem dX1_behind_14 : decode cX1_behind 14 = .ok (.invokevirtual 46, 3) := by decide +kernel
theorem dX1_behind_17 : decode cX1_behind 17 = .ok (.ifCond .ne 5, 3) := by decide +kernel
theorem dX1_behind_20 : decode cX1_behind 20 = .ok (.lconst 0, 1) := by decide +kernel
theorem dX1_behind_21 : decode cX1_behind 21 = .ok (.lreturn, 1) := by decide +kernel
theorem dX1_behind_22 : decode cX1_behind 22 = .ok (.lconst 0, 1) := by decide +kernel
theorem dX1_behind_23 : decode cX1_behind 23 = .ok (.lstore_n 3, 1) := by decide +kernel
theorem dX1_behind_24 : decode cX1_behind 24 = .ok (.aload_n 0, 1) := by decide +kernel
theorem dX1_behind_25 : decode cX1_behind 25 = .ok (.aload_n 0, 1) := by decide +kernel
theorem dX1_behind_26 : decode cX1_behind 26 = .ok (.getfield 39, 3) := by decide +kernel
theorem dX1_behind_29 : decode cX1_behind 29 = .ok (.iconst 1, 1) := by decide +kernel
theorem dX1_behind_30 : decode cX1_behind 30 = .ok (.isub, 1) := by decide +kernel
theorem dX1_behind_31 : decode cX1_behind 31 = .ok (.iload_n 1, 1) := by decide +kernel
theorem dX1_behind_32 : decode cX1_behind 32 = .ok (.isub, 1) := by decide +kernel
theorem dX1_behind_33 : decode cX1_behind 33 = .ok (.invokevirtual 65, 3) := by decide +kernel
theorem dX1_behind_36 : decode cX1_behind 36 = .ok (.istore 5, 2) := by decide +kernel
theorem dX1_behind_38 : decode cX1_behind 38 = .ok (.iconst 0, 1) := by decide +kernel
theorem dX1_behind_39 : decode cX1_behind 39 = .ok (.istore 6, 2) := by decide +kernel
theorem dX1_behind_41 : decode cX1_behind 41 = .ok (.iload 6, 2) := by decide +kernel
theorem dX1_behind_43 : decode cX1_behind 43 = .ok (.iload 5, 2) := by decide +kernel
theorem dX1_behind_45 : decode cX1_behind 45 = .ok (.if_icmp .ge 47, 3) := by decide +kernel
theorem dX1_behind_48 : decode cX1_behind 48 = .ok (.aload_n 0, 1) := by decide +kernel
theorem dX1_behind_49 : decode cX1_behind 49 = .ok (.iload 6, 2) := by decide +kernel
theorem dX1_behind_51 : decode cX1_behind 51 = .ok (.iload_n 1, 1) := by decide +kernel
theorem dX1_behind_52 : decode cX1_behind 52 = .ok (.iconst 1, 1) := by decide +kernel
theorem dX1_behind_53 : decode cX1_behind 53 = .ok (.iadd, 1) := by decide +kernel
theorem dX1_behind_54 : decode cX1_behind 54 = .ok (.aload_n 0, 1) := by decide +kernel
theorem dX1_behind_55 : decode cX1_behind 55 = .ok (.getfield 39, 3) := by decide +kernel
theorem dX1_behind_58 : decode cX1_behind 58 = .ok (.iconst 1, 1) := by decide +kernel
theorem dX1_behind_59 : decode cX1_behind 59 = .ok (.isub, 1) := by decide +kernel
theorem dX1_behind_60 : decode cX1_behind 60 = .ok (.invokevirtual 57, 3) := by decide +kernel
theorem dX1_behind_63 : decode cX1_behind 63 = .ok (.aload_n 0, 1) := by decide +kernel
theorem dX1_behind_64 : decode cX1_behind 64 = .ok (.getfield 23, 3) := by decide +kernel
theorem dX1_behind_67 : decode cX1_behind 67 = .ok (.iload_n 1, 1) := by decide +kernel
theorem dX1_behind_68 : decode cX1_behind 68 = .ok (.iload_n 2, 1) := by decide +kernel
theorem dX1_behind_69 : decode cX1_behind 69 = .ok (.iastore, 1) := by decide +kernel
theorem dX1_behind_70 : decode cX1_behind 70 = .ok (.lload_n 3, 1) := by decide +kernel
theorem dX1_behind_71 : decode cX1_behind 71 = .ok (.aload_n 0, 1) := by decide +kernel
theorem dX1_behind_72 : decode cX1_behind 72 = .ok (.iload_n 1, 1) := by decide +kernel
theorem dX1_behind_73 : decode cX1_behind 73 = .ok (.iconst 1, 1) := by decide +kernel
theorem dX1_behind_74 : decode cX1_behind 74 = .ok (.iadd, 1) := by decide +kernel
theorem dX1_behind_75 : decode cX1_behind 75 = .ok (.aload_n 0, 1) := by decide +kernel
theorem dX1_behind_76 : decode cX1_behind 76 = .ok (.getfield 39, 3) := by decide +kernel
theorem dX1_behind_79 : decode cX1_behind 79 = .ok (.iconst 1, 1) := by decide +kernel
theorem dX1_behind_80 : decode cX1_behind 80 = .ok (.isub, 1) := by decide +kernel
theorem dX1_behind_81 : decode cX1_behind 81 = .ok (.invokevirtual 61, 3) := by decide +kernel
theorem dX1_behind_84 : decode cX1_behind 84 = .ok (.ladd, 1) := by decide +kernel
theorem dX1_behind_85 : decode cX1_behind 85 = .ok (.lstore_n 3, 1) := by decide +kernel
theorem dX1_behind_86 : decode cX1_behind 86 = .ok (.iinc 6 1, 3) := by decide +kernel
theorem dX1_behind_89 : decode cX1_behind 89 = .ok (.goto (-48), 3) := by decide +kernel
theorem dX1_behind_92 : decode cX1_behind 92 = .ok (.lload_n 3, 1) := by decide +kernel
theorem dX1_behind_93 : decode cX1_behind 93 = .ok (.lreturn, 1) := by decide +kernel
theorem dX1_ways_0 : decode cX1_ways 0 = .ok (.iconst 0, 1) := by decide +kernel
theorem dX1_ways_1 : decode cX1_ways 1 = .ok (.istore_n 1, 1) := by decide +kernel
theorem dX1_ways_2 : decode cX1_ways 2 = .ok (.aload_n 0, 1) := by decide +kernel
theorem dX1_ways_3 : decode cX1_ways 3 = .ok (.aload_n 0, 1) := by decide +kernel
theorem dX1_ways_4 : decode cX1_ways 4 = .ok (.getfield 39, 3) := by decide +kernel
theorem dX1_ways_7 : decode cX1_ways 7 = .ok (.invokevirtual 65, 3) := by decide +kernel
theorem dX1_ways_10 : decode cX1_ways 10 = .ok (.istore_n 2, 1) := by decide +kernel
theorem dX1_ways_11 : decode cX1_ways 11 = .ok (.iconst 0, 1) := by decide +kernel
theorem dX1_ways_12 : decode cX1_ways 12 = .ok (.istore_n 3, 1) := by decide +kernel
theorem dX1_ways_13 : decode cX1_ways 13 = .ok (.iload_n 3, 1) := by decide +kernel
theorem dX1_ways_14 : decode cX1_ways 14 = .ok (.iload_n 2, 1) := by decide +kernel
theorem dX1_ways_15 : decode cX1_ways 15 = .ok (.if_icmp .ge 27, 3) := by decide +kernel
theorem dX1_ways_18 : decode cX1_ways 18 = .ok (.aload_n 0, 1) := by decide +kernel
theorem dX1_ways_19 : decode cX1_ways 19 = .ok (.iload_n 3, 1) := by decide +kernel
theorem dX1_ways_20 : decode cX1_ways 20 = .ok (.invokevirtual 69, 3) := by decide +kernel
theorem dX1_ways_23 : decode cX1_ways 23 = .ok (.lconst 0, 1) := by decide +kernel
theorem dX1_ways_24 : decode cX1_ways 24 = .ok (.lcmp, 1) := by decide +kernel
theorem dX1_ways_25 : decode cX1_ways 25 = .ok (.ifCond .le 9, 3) := by decide +kernel
theorem dX1_ways_28 : decode cX1_ways 28 = .ok (.iload_n 1, 1) := by decide +kernel
theorem dX1_ways_29 : decode cX1_ways 29 = .ok (.iconst 1, 1) := by decide +kernel
theorem dX1_ways_30 : decode cX1_ways 30 = .ok (.iadd, 1) := by decide +kernel
theorem dX1_ways_31 : decode cX1_ways 31 = .ok (.goto 4, 3) := by decide +kernel
theorem dX1_ways_34 : decode cX1_ways 34 = .ok (.iload_n 1, 1) := by decide +kernel
theorem dX1_ways_35 : decode cX1_ways 35 = .ok (.istore_n 1, 1) := by decide +kernel
theorem dX1_ways_36 : decode cX1_ways 36 = .ok (.iinc 3 1, 3) := by decide +kernel
theorem dX1_ways_39 : decode cX1_ways 39 = .ok (.goto (-26), 3) := by decide +kernel
theorem dX1_ways_42 : decode cX1_ways 42 = .ok (.iload_n 1, 1) := by decide +kernel
theorem dX1_ways_43 : decode cX1_ways 43 = .ok (.ireturn, 1) := by decide +kernel
theorem dX1_rank_0 : decode cX1_rank 0 = .ok (.aload_n 0, 1) := by decide +kernel
theorem dX1_rank_1 : decode cX1_rank 1 = .ok (.aload_n 0, 1) := by decide +kernel
theorem dX1_rank_2 : decode cX1_rank 2 = .ok (.getfield 39, 3) := by decide +kernel
theorem dX1_rank_5 : decode cX1_rank 5 = .ok (.invokevirtual 65, 3) := by decide +kernel
theorem dX1_rank_8 : decode cX1_rank 8 = .ok (.istore_n 2, 1) := by decide +kernel
theorem dX1_rank_9 : decode cX1_rank 9 = .ok (.iload_n 1, 1) := by decide +kernel
theorem dX1_rank_10 : decode cX1_rank 10 = .ok (.ifCond .lt 9, 3) := by decide +kernel
theorem dX1_rank_13 : decode cX1_rank 13 = .ok (.iload_n 1, 1) := by decide +kernel
theorem dX1_rank_14 : decode cX1_rank 14 = .ok (.bipush 11, 2) := by decide +kernel
theorem dX1_rank_16 : decode cX1_rank 16 = .ok (.if_icmp .le 5, 3) := by decide +kernel
theorem dX1_rank_19 : decode cX1_rank 19 = .ok (.iconst (-1), 1) := by decide +kernel
theorem dX1_rank_20 : decode cX1_rank 20 = .ok (.ireturn, 1) := by decide +kernel
theorem dX1_rank_21 : decode cX1_rank 21 = .ok (.iconst 0, 1) := by decide +kernel
theorem dX1_rank_22 : decode cX1_rank 22 = .ok (.istore_n 3, 1) := by decide +kernel
theorem dX1_rank_23 : decode cX1_rank 23 = .ok (.iload_n 3, 1) := by decide +kernel
theorem dX1_rank_24 : decode cX1_rank 24 = .ok (.iload_n 2, 1) := by decide +kernel
theorem dX1_rank_25 : decode cX1_rank 25 = .ok (.if_icmp .ge 20, 3) := by decide +kernel
theorem dX1_rank_28 : decode cX1_rank 28 = .ok (.aload_n 0, 1) := by decide +kernel
theorem dX1_rank_29 : decode cX1_rank 29 = .ok (.getfield 29, 3) := by decide +kernel
theorem dX1_rank_32 : decode cX1_rank 32 = .ok (.iload_n 3, 1) := by decide +kernel
theorem dX1_rank_33 : decode cX1_rank 33 = .ok (.aload_n 0, 1) := by decide +kernel
theorem dX1_rank_34 : decode cX1_rank 34 = .ok (.iload_n 3, 1) := by decide +kernel
theorem dX1_rank_35 : decode cX1_rank 35 = .ok (.invokevirtual 69, 3) := by decide +kernel
theorem dX1_rank_38 : decode cX1_rank 38 = .ok (.lastore, 1) := by decide +kernel
theorem dX1_rank_39 : decode cX1_rank 39 = .ok (.iinc 3 1, 3) := by decide +kernel
theorem dX1_rank_42 : decode cX1_rank 42 = .ok (.goto (-19), 3) := by decide +kernel
theorem dX1_rank_45 : decode cX1_rank 45 = .ok (.iconst (-1), 1) := by decide +kernel
theorem dX1_rank_46 : decode cX1_rank 46 = .ok (.istore_n 3, 1) := by decide +kernel
theorem dX1_rank_47 : decode cX1_rank 47 = .ok (.iconst 0, 1) := by decide +kernel
theorem dX1_rank_48 : decode cX1_rank 48 = .ok (.istore 4, 2) := by decide +kernel
theorem dX1_rank_50 : decode cX1_rank 50 = .ok (.iload 4, 2) := by decide +kernel
theorem dX1_rank_52 : decode cX1_rank 52 = .ok (.iload_n 1, 1) := by decide +kernel
theorem dX1_rank_53 : decode cX1_rank 53 = .ok (.if_icmp .gt 84, 3) := by decide +kernel
theorem dX1_rank_56 : decode cX1_rank 56 = .ok (.iconst (-1), 1) := by decide +kernel
theorem dX1_rank_57 : decode cX1_rank 57 = .ok (.istore 5, 2) := by decide +kernel
theorem dX1_rank_59 : decode cX1_rank 59 = .ok (.iconst 0, 1) := by decide +kernel
theorem dX1_rank_60 : decode cX1_rank 60 = .ok (.istore 6, 2) := by decide +kernel
theorem dX1_rank_62 : decode cX1_rank 62 = .ok (.iload 6, 2) := by decide +kernel
theorem dX1_rank_64 : decode cX1_rank 64 = .ok (.iload_n 2, 1) := by decide +kernel
theorem dX1_rank_65 : decode cX1_rank 65 = .ok (.if_icmp .ge 48, 3) := by decide +kernel
theorem dX1_rank_68 : decode cX1_rank 68 = .ok (.aload_n 0, 1) := by decide +kernel
theorem dX1_rank_69 : decode cX1_rank 69 = .ok (.getfield 29, 3) := by decide +kernel
theorem dX1_rank_72 : decode cX1_rank 72 = .ok (.iload 6, 2) := by decide +kernel
theorem dX1_rank_74 : decode cX1_rank 74 = .ok (.laload, 1) := by decide +kernel
theorem dX1_rank_75 : decode cX1_rank 75 = .ok (.lconst 0, 1) := by decide +kernel
theorem dX1_rank_76 : decode cX1_rank 76 = .ok (.lcmp, 1) := by decide +kernel
theorem dX1_rank_77 : decode cX1_rank 77 = .ok (.ifCond .le 30, 3) := by decide +kernel
theorem dX1_rank_80 : decode cX1_rank 80 = .ok (.iload 5, 2) := by decide +kernel
theorem dX1_rank_82 : decode cX1_rank 82 = .ok (.ifCond .lt 21, 3) := by decide +kernel
theorem dX1_rank_85 : decode cX1_rank 85 = .ok (.aload_n 0, 1) := by decide +kernel
theorem dX1_rank_86 : decode cX1_rank 86 = .ok (.getfield 29, 3) := by decide +kernel
theorem dX1_rank_89 : decode cX1_rank 89 = .ok (.iload 6, 2) := by decide +kernel
theorem dX1_rank_91 : decode cX1_rank 91 = .ok (.laload, 1) := by decide +kernel
theorem dX1_rank_92 : decode cX1_rank 92 = .ok (.aload_n 0, 1) := by decide +kernel
theorem dX1_rank_93 : decode cX1_rank 93 = .ok (.getfield 29, 3) := by decide +kernel
theorem dX1_rank_96 : decode cX1_rank 96 = .ok (.iload 5, 2) := by decide +kernel
theorem dX1_rank_98 : decode cX1_rank 98 = .ok (.laload, 1) := by decide +kernel
theorem dX1_rank_99 : decode cX1_rank 99 = .ok (.lcmp, 1) := by decide +kernel
theorem dX1_rank_100 : decode cX1_rank 100 = .ok (.ifCond .le 7, 3) := by decide +kernel
theorem dX1_rank_103 : decode cX1_rank 103 = .ok (.iload 6, 2) := by decide +kernel
theorem dX1_rank_105 : decode cX1_rank 105 = .ok (.istore 5, 2) := by decide +kernel
theorem dX1_rank_107 : decode cX1_rank 107 = .ok (.iinc 6 1, 3) := by decide +kernel
theorem dX1_rank_110 : decode cX1_rank 110 = .ok (.goto (-48), 3) := by decide +kernel
theorem dX1_rank_113 : decode cX1_rank 113 = .ok (.iload 5, 2) := by decide +kernel
theorem dX1_rank_115 : decode cX1_rank 115 = .ok (.ifCond .ge 5, 3) := by decide +kernel
theorem dX1_rank_118 : decode cX1_rank 118 = .ok (.iconst (-1), 1) := by decide +kernel
theorem dX1_rank_119 : decode cX1_rank 119 = .ok (.ireturn, 1) := by decide +kernel
theorem dX1_rank_120 : decode cX1_rank 120 = .ok (.aload_n 0, 1) := by decide +kernel
theorem dX1_rank_121 : decode cX1_rank 121 = .ok (.getfield 29, 3) := by decide +kernel
theorem dX1_rank_124 : decode cX1_rank 124 = .ok (.iload 5, 2) := by decide +kernel
theorem dX1_rank_126 : decode cX1_rank 126 = .ok (.lconst 0, 1) := by decide +kernel
theorem dX1_rank_127 : decode cX1_rank 127 = .ok (.lastore, 1) := by decide +kernel
theorem dX1_rank_128 : decode cX1_rank 128 = .ok (.iload 5, 2) := by decide +kernel
theorem dX1_rank_130 : decode cX1_rank 130 = .ok (.istore_n 3, 1) := by decide +kernel
theorem dX1_rank_131 : decode cX1_rank 131 = .ok (.iinc 4 1, 3) := by decide +kernel
theorem dX1_rank_134 : decode cX1_rank 134 = .ok (.goto (-84), 3) := by decide +kernel
theorem dX1_rank_137 : decode cX1_rank 137 = .ok (.iload_n 3, 1) := by decide +kernel
theorem dX1_rank_138 : decode cX1_rank 138 = .ok (.ireturn, 1) := by decide +kernel
theorem dX1_ranked_0 : decode cX1_ranked 0 = .ok (.aload_n 0, 1) := by decide +kernel
theorem dX1_ranked_1 : decode cX1_ranked 1 = .ok (.iload_n 1, 1) := by decide +kernel
theorem dX1_ranked_2 : decode cX1_ranked 2 = .ok (.invokevirtual 73, 3) := by decide +kernel
theorem dX1_ranked_5 : decode cX1_ranked 5 = .ok (.istore_n 2, 1) := by decide +kernel
theorem dX1_ranked_6 : decode cX1_ranked 6 = .ok (.iload_n 2, 1) := by decide +kernel
theorem dX1_ranked_7 : decode cX1_ranked 7 = .ok (.ifCond .ge 7, 3) := by decide +kernel
theorem dX1_ranked_10 : decode cX1_ranked 10 = .ok (.lconst 0, 1) := by decide +kernel
theorem dX1_ranked_11 : decode cX1_ranked 11 = .ok (.goto 8, 3) := by decide +kernel
theorem dX1_ranked_14 : decode cX1_ranked 14 = .ok (.aload_n 0, 1) := by decide +kernel
theorem dX1_ranked_15 : decode cX1_ranked 15 = .ok (.iload_n 2, 1) := by decide +kernel
theorem dX1_ranked_16 : decode cX1_ranked 16 = .ok (.invokevirtual 69, 3) := by decide +kernel
theorem dX1_ranked_19 : decode cX1_ranked 19 = .ok (.lreturn, 1) := by decide +kernel
theorem dX1_stateOf_0 : decode cX1_stateOf 0 = .ok (.aload_n 0, 1) := by decide +kernel
theorem dX1_stateOf_1 : decode cX1_stateOf 1 = .ok (.iload_n 1, 1) := by decide +kernel
theorem dX1_stateOf_2 : decode cX1_stateOf 2 = .ok (.invokevirtual 73, 3) := by decide +kernel
theorem dX1_stateOf_5 : decode cX1_stateOf 5 = .ok (.istore_n 3, 1) := by decide +kernel
theorem dX1_stateOf_6 : decode cX1_stateOf 6 = .ok (.iload_n 3, 1) := by decide +kernel
theorem dX1_stateOf_7 : decode cX1_stateOf 7 = .ok (.ifCond .lt 15, 3) := by decide +kernel
theorem dX1_stateOf_10 : decode cX1_stateOf 10 = .ok (.iload_n 2, 1) := by decide +kernel
theorem dX1_stateOf_11 : decode cX1_stateOf 11 = .ok (.ifCond .lt 11, 3) := by decide +kernel
theorem dX1_stateOf_14 : decode cX1_stateOf 14 = .ok (.iload_n 2, 1) := by decide +kernel
theorem dX1_stateOf_15 : decode cX1_stateOf 15 = .ok (.aload_n 0, 1) := by decide +kernel
theorem dX1_stateOf_16 : decode cX1_stateOf 16 = .ok (.getfield 39, 3) := by decide +kernel
theorem dX1_stateOf_19 : decode cX1_stateOf 19 = .ok (.if_icmp .lt 5, 3) := by decide +kernel
theorem dX1_stateOf_22 : decode cX1_stateOf 22 = .ok (.iconst (-1), 1) := by decide +kernel
theorem dX1_stateOf_23 : decode cX1_stateOf 23 = .ok (.ireturn, 1) := by decide +kernel
theorem dX1_stateOf_24 : decode cX1_stateOf 24 = .ok (.aload_n 0, 1) := by decide +kernel
theorem dX1_stateOf_25 : decode cX1_stateOf 25 = .ok (.iload_n 3, 1) := by decide +kernel
theorem dX1_stateOf_26 : decode cX1_stateOf 26 = .ok (.iconst 0, 1) := by decide +kernel
theorem dX1_stateOf_27 : decode cX1_stateOf 27 = .ok (.aload_n 0, 1) := by decide +kernel
theorem dX1_stateOf_28 : decode cX1_stateOf 28 = .ok (.getfield 39, 3) := by decide +kernel
theorem dX1_stateOf_31 : decode cX1_stateOf 31 = .ok (.iconst 1, 1) := by decide +kernel
theorem dX1_stateOf_32 : decode cX1_stateOf 32 = .ok (.isub, 1) := by decide +kernel
theorem dX1_stateOf_33 : decode cX1_stateOf 33 = .ok (.invokevirtual 57, 3) := by decide +kernel
theorem dX1_stateOf_36 : decode cX1_stateOf 36 = .ok (.aload_n 0, 1) := by decide +kernel
theorem dX1_stateOf_37 : decode cX1_stateOf 37 = .ok (.getfield 23, 3) := by decide +kernel
theorem dX1_stateOf_40 : decode cX1_stateOf 40 = .ok (.iload_n 2, 1) := by decide +kernel
theorem dX1_stateOf_41 : decode cX1_stateOf 41 = .ok (.iaload, 1) := by decide +kernel
theorem dX1_stateOf_42 : decode cX1_stateOf 42 = .ok (.ireturn, 1) := by decide +kernel
theorem dX1_fraction_0 : decode cX1_fraction 0 = .ok (.lload_n 1, 1) := by decide +kernel
theorem dX1_fraction_1 : decode cX1_fraction 1 = .ok (.lstore 5, 2) := by decide +kernel
theorem dX1_fraction_3 : decode cX1_fraction 3 = .ok (.lload_n 3, 1) := by decide +kernel
theorem dX1_fraction_4 : decode cX1_fraction 4 = .ok (.lstore 7, 2) := by decide +kernel
theorem dX1_fraction_6 : decode cX1_fraction 6 = .ok (.lload 7, 2) := by decide +kernel
theorem dX1_fraction_8 : decode cX1_fraction 8 = .ok (.lconst 0, 1) := by decide +kernel
theorem dX1_fraction_9 : decode cX1_fraction 9 = .ok (.lcmp, 1) := by decide +kernel
theorem dX1_fraction_10 : decode cX1_fraction 10 = .ok (.ifCond .eq 21, 3) := by decide +kernel
theorem dX1_fraction_13 : decode cX1_fraction 13 = .ok (.lload 5, 2) := by decide +kernel
theorem dX1_fraction_15 : decode cX1_fraction 15 = .ok (.lload 7, 2) := by decide +kernel
theorem dX1_fraction_17 : decode cX1_fraction 17 = .ok (.lrem, 1) := by decide +kernel
theorem dX1_fraction_18 : decode cX1_fraction 18 = .ok (.lstore 9, 2) := by decide +kernel
theorem dX1_fraction_20 : decode cX1_fraction 20 = .ok (.lload 7, 2) := by decide +kernel
theorem dX1_fraction_22 : decode cX1_fraction 22 = .ok (.lstore 5, 2) := by decide +kernel
theorem dX1_fraction_24 : decode cX1_fraction 24 = .ok (.lload 9, 2) := by decide +kernel
theorem dX1_fraction_26 : decode cX1_fraction 26 = .ok (.lstore 7, 2) := by decide +kernel
theorem dX1_fraction_28 : decode cX1_fraction 28 = .ok (.goto (-22), 3) := by decide +kernel
theorem dX1_fraction_31 : decode cX1_fraction 31 = .ok (.aload_n 0, 1) := by decide +kernel
theorem dX1_fraction_32 : decode cX1_fraction 32 = .ok (.lload_n 1, 1) := by decide +kernel
theorem dX1_fraction_33 : decode cX1_fraction 33 = .ok (.lload 5, 2) := by decide +kernel
theorem dX1_fraction_35 : decode cX1_fraction 35 = .ok (.ldiv, 1) := by decide +kernel
theorem dX1_fraction_36 : decode cX1_fraction 36 = .ok (.putfield 76, 3) := by decide +kernel
theorem dX1_fraction_39 : decode cX1_fraction 39 = .ok (.aload_n 0, 1) := by decide +kernel
theorem dX1_fraction_40 : decode cX1_fraction 40 = .ok (.lload_n 3, 1) := by decide +kernel
theorem dX1_fraction_41 : decode cX1_fraction 41 = .ok (.lload 5, 2) := by decide +kernel
theorem dX1_fraction_43 : decode cX1_fraction 43 = .ok (.ldiv, 1) := by decide +kernel
theorem dX1_fraction_44 : decode cX1_fraction 44 = .ok (.putfield 80, 3) := by decide +kernel
theorem dX1_fraction_47 : decode cX1_fraction 47 = .ok (.return_, 1) := by decide +kernel
theorem dX1_part_0 : decode cX1_part 0 = .ok (.iload_n 1, 1) := by decide +kernel
theorem dX1_part_1 : decode cX1_part 1 = .ok (.ifCond .ne 10, 3) := by decide +kernel
theorem dX1_part_4 : decode cX1_part 4 = .ok (.aload_n 0, 1) := by decide +kernel
theorem dX1_part_5 : decode cX1_part 5 = .ok (.getfield 76, 3) := by decide +kernel
theorem dX1_part_8 : decode cX1_part 8 = .ok (.goto 16, 3) := by decide +kernel
theorem dX1_part_11 : decode cX1_part 11 = .ok (.iload_n 1, 1) := by decide +kernel
theorem dX1_part_12 : decode cX1_part 12 = .ok (.iconst 1, 1) := by decide +kernel
theorem dX1_part_13 : decode cX1_part 13 = .ok (.if_icmp .ne 10, 3) := by decide +kernel
theorem dX1_part_16 : decode cX1_part 16 = .ok (.aload_n 0, 1) := by decide +kernel
theorem dX1_part_17 : decode cX1_part 17 = .ok (.getfield 80, 3) := by decide +kernel
theorem dX1_part_20 : decode cX1_part 20 = .ok (.goto 4, 3) := by decide +kernel
theorem dX1_part_23 : decode cX1_part 23 = .ok (.lconst 0, 1) := by decide +kernel
theorem dX1_part_24 : decode cX1_part 24 = .ok (.lreturn, 1) := by decide +kernel
theorem dX1_times_0 : decode cX1_times 0 = .ok (.iconst 0, 1) := by decide +kernel
theorem dX1_times_1 : decode cX1_times 1 = .ok (.istore 4, 2) := by decide +kernel
theorem dX1_times_3 : decode cX1_times 3 = .ok (.iconst 0, 1) := by decide +kernel
theorem dX1_times_4 : decode cX1_times 4 = .ok (.istore 5, 2) := by decide +kernel
theorem dX1_times_6 : decode cX1_times 6 = .ok (.iload 5, 2) := by decide +kernel
theorem dX1_times_8 : decode cX1_times 8 = .ok (.aload_n 0, 1) := by decide +kernel
theorem dX1_times_9 : decode cX1_times 9 = .ok (.getfield 39, 3) := by decide +kernel
theorem dX1_times_12 : decode cX1_times 12 = .ok (.if_icmp .ge 131, 3) := by decide +kernel
theorem dX1_times_15 : decode cX1_times 15 = .ok (.iload_n 1, 1) := by decide +kernel
theorem dX1_times_16 : decode cX1_times 16 = .ok (.ifCond .ne 28, 3) := by decide +kernel
theorem dX1_times_19 : decode cX1_times 19 = .ok (.iload 5, 2) := by decide +kernel
theorem dX1_times_21 : decode cX1_times 21 = .ok (.iload_n 2, 1) := by decide +kernel
theorem dX1_times_22 : decode cX1_times 22 = .ok (.if_icmp .ne 18, 3) := by decide +kernel
theorem dX1_times_25 : decode cX1_times 25 = .ok (.aload_n 0, 1) := by decide +kernel
theorem dX1_times_26 : decode cX1_times 26 = .ok (.getfield 23, 3) := by decide +kernel
theorem dX1_times_29 : decode cX1_times 29 = .ok (.iload 5, 2) := by decide +kernel
theorem dX1_times_31 : decode cX1_times 31 = .ok (.iaload, 1) := by decide +kernel
theorem dX1_times_32 : decode cX1_times 32 = .ok (.iload_n 3, 1) := by decide +kernel
theorem dX1_times_33 : decode cX1_times 33 = .ok (.if_icmp .ne 7, 3) := by decide +kernel
theorem dX1_times_36 : decode cX1_times 36 = .ok (.iconst 1, 1) := by decide +kernel
theorem dX1_times_37 : decode cX1_times 37 = .ok (.goto 82, 3) := by decide +kernel
theorem dX1_times_40 : decode cX1_times 40 = .ok (.iconst 0, 1) := by decide +kernel
theorem dX1_times_41 : decode cX1_times 41 = .ok (.goto 78, 3) := by decide +kernel
theorem dX1_times_44 : decode cX1_times 44 = .ok (.iload_n 1, 1) := by decide +kernel
theorem dX1_times_45 : decode cX1_times 45 = .ok (.iconst 1, 1) := by decide +kernel
theorem dX1_times_46 : decode cX1_times 46 = .ok (.if_icmp .ne 46, 3) := by decide +kernel
theorem dX1_times_49 : decode cX1_times 49 = .ok (.iload 5, 2) := by decide +kernel
theorem dX1_times_51 : decode cX1_times 51 = .ok (.iconst 1, 1) := by decide +kernel
theorem dX1_times_52 : decode cX1_times 52 = .ok (.iadd, 1) := by decide +kernel
theorem dX1_times_53 : decode cX1_times 53 = .ok (.aload_n 0, 1) := by decide +kernel
theorem dX1_times_54 : decode cX1_times 54 = .ok (.getfield 39, 3) := by decide +kernel
theorem dX1_times_57 : decode cX1_times 57 = .ok (.if_icmp .ge 31, 3) := by decide +kernel
theorem dX1_times_60 : decode cX1_times 60 = .ok (.aload_n 0, 1) := by decide +kernel
theorem dX1_times_61 : decode cX1_times 61 = .ok (.getfield 23, 3) := by decide +kernel
theorem dX1_times_64 : decode cX1_times 64 = .ok (.iload 5, 2) := by decide +kernel
theorem dX1_times_66 : decode cX1_times 66 = .ok (.iaload, 1) := by decide +kernel
theorem dX1_times_67 : decode cX1_times 67 = .ok (.iload_n 2, 1) := by decide +kernel
theorem dX1_times_68 : decode cX1_times 68 = .ok (.if_icmp .ne 20, 3) := by decide +kernel
theorem dX1_times_71 : decode cX1_times 71 = .ok (.aload_n 0, 1) := by decide +kernel
theorem dX1_times_72 : decode cX1_times 72 = .ok (.getfield 23, 3) := by decide +kernel
theorem dX1_times_75 : decode cX1_times 75 = .ok (.iload 5, 2) := by decide +kernel
theorem dX1_times_77 : decode cX1_times 77 = .ok (.iconst 1, 1) := by decide +kernel
theorem dX1_times_78 : decode cX1_times 78 = .ok (.iadd, 1) := by decide +kernel
theorem dX1_times_79 : decode cX1_times 79 = .ok (.iaload, 1) := by decide +kernel
theorem dX1_times_80 : decode cX1_times 80 = .ok (.iload_n 3, 1) := by decide +kernel
theorem dX1_times_81 : decode cX1_times 81 = .ok (.if_icmp .ne 7, 3) := by decide +kernel
theorem dX1_times_84 : decode cX1_times 84 = .ok (.iconst 1, 1) := by decide +kernel
theorem dX1_times_85 : decode cX1_times 85 = .ok (.goto 34, 3) := by decide +kernel
theorem dX1_times_88 : decode cX1_times 88 = .ok (.iconst 0, 1) := by decide +kernel
theorem dX1_times_89 : decode cX1_times 89 = .ok (.goto 30, 3) := by decide +kernel
theorem dX1_times_92 : decode cX1_times 92 = .ok (.aload_n 0, 1) := by decide +kernel
theorem dX1_times_93 : decode cX1_times 93 = .ok (.getfield 23, 3) := by decide +kernel
theorem dX1_times_96 : decode cX1_times 96 = .ok (.iload 5, 2) := by decide +kernel
theorem dX1_times_98 : decode cX1_times 98 = .ok (.iaload, 1) := by decide +kernel
theorem dX1_times_99 : decode cX1_times 99 = .ok (.iload_n 2, 1) := by decide +kernel
theorem dX1_times_100 : decode cX1_times 100 = .ok (.if_icmp .ne 18, 3) := by decide +kernel
theorem dX1_times_103 : decode cX1_times 103 = .ok (.aload_n 0, 1) := by decide +kernel
theorem dX1_times_104 : decode cX1_times 104 = .ok (.getfield 20, 3) := by decide +kernel
theorem dX1_times_107 : decode cX1_times 107 = .ok (.iload 5, 2) := by decide +kernel
theorem dX1_times_109 : decode cX1_times 109 = .ok (.iaload, 1) := by decide +kernel
theorem dX1_times_110 : decode cX1_times 110 = .ok (.iload_n 3, 1) := by decide +kernel
theorem dX1_times_111 : decode cX1_times 111 = .ok (.if_icmp .ne 7, 3) := by decide +kernel
theorem dX1_times_114 : decode cX1_times 114 = .ok (.iconst 1, 1) := by decide +kernel
theorem dX1_times_115 : decode cX1_times 115 = .ok (.goto 4, 3) := by decide +kernel
theorem dX1_times_118 : decode cX1_times 118 = .ok (.iconst 0, 1) := by decide +kernel
theorem dX1_times_119 : decode cX1_times 119 = .ok (.istore 6, 2) := by decide +kernel
theorem dX1_times_121 : decode cX1_times 121 = .ok (.iload 6, 2) := by decide +kernel
theorem dX1_times_123 : decode cX1_times 123 = .ok (.ifCond .eq 10, 3) := by decide +kernel
theorem dX1_times_126 : decode cX1_times 126 = .ok (.iload 4, 2) := by decide +kernel
theorem dX1_times_128 : decode cX1_times 128 = .ok (.iconst 1, 1) := by decide +kernel
theorem dX1_times_129 : decode cX1_times 129 = .ok (.iadd, 1) := by decide +kernel
theorem dX1_times_130 : decode cX1_times 130 = .ok (.goto 5, 3) := by decide +kernel
theorem dX1_times_133 : decode cX1_times 133 = .ok (.iload 4, 2) := by decide +kernel
theorem dX1_times_135 : decode cX1_times 135 = .ok (.istore 4, 2) := by decide +kernel
theorem dX1_times_137 : decode cX1_times 137 = .ok (.iinc 5 1, 3) := by decide +kernel
theorem dX1_times_140 : decode cX1_times 140 = .ok (.goto (-134), 3) := by decide +kernel
theorem dX1_times_143 : decode cX1_times 143 = .ok (.iload 4, 2) := by decide +kernel
theorem dX1_times_145 : decode cX1_times 145 = .ok (.ireturn, 1) := by decide +kernel
theorem dX1_sum_0 : decode cX1_sum 0 = .ok (.lconst 0, 1) := by decide +kernel
theorem dX1_sum_1 : decode cX1_sum 1 = .ok (.lstore 4, 2) := by decide +kernel
theorem dX1_sum_3 : decode cX1_sum 3 = .ok (.aload_n 0, 1) := by decide +kernel
theorem dX1_sum_4 : decode cX1_sum 4 = .ok (.aload_n 0, 1) := by decide +kernel
theorem dX1_sum_5 : decode cX1_sum 5 = .ok (.getfield 39, 3) := by decide +kernel
theorem dX1_sum_8 : decode cX1_sum 8 = .ok (.invokevirtual 65, 3) := by decide +kernel
theorem dX1_sum_11 : decode cX1_sum 11 = .ok (.istore 6, 2) := by decide +kernel
theorem dX1_sum_13 : decode cX1_sum 13 = .ok (.iconst 0, 1) := by decide +kernel
theorem dX1_sum_14 : decode cX1_sum 14 = .ok (.istore 7, 2) := by decide +kernel
theorem dX1_sum_16 : decode cX1_sum 16 = .ok (.iload 7, 2) := by decide +kernel
theorem dX1_sum_18 : decode cX1_sum 18 = .ok (.iload 6, 2) := by decide +kernel
theorem dX1_sum_20 : decode cX1_sum 20 = .ok (.if_icmp .ge 33, 3) := by decide +kernel
theorem dX1_sum_23 : decode cX1_sum 23 = .ok (.aload_n 0, 1) := by decide +kernel
theorem dX1_sum_24 : decode cX1_sum 24 = .ok (.iload 7, 2) := by decide +kernel
theorem dX1_sum_26 : decode cX1_sum 26 = .ok (.invokevirtual 69, 3) := by decide +kernel
theorem dX1_sum_29 : decode cX1_sum 29 = .ok (.lstore 8, 2) := by decide +kernel
theorem dX1_sum_31 : decode cX1_sum 31 = .ok (.lload 4, 2) := by decide +kernel
theorem dX1_sum_33 : decode cX1_sum 33 = .ok (.lload 8, 2) := by decide +kernel
theorem dX1_sum_35 : decode cX1_sum 35 = .ok (.aload_n 0, 1) := by decide +kernel
theorem dX1_sum_36 : decode cX1_sum 36 = .ok (.iload_n 1, 1) := by decide +kernel
theorem dX1_sum_37 : decode cX1_sum 37 = .ok (.iload_n 2, 1) := by decide +kernel
theorem dX1_sum_38 : decode cX1_sum 38 = .ok (.iload_n 3, 1) := by decide +kernel
theorem dX1_sum_39 : decode cX1_sum 39 = .ok (.invokevirtual 83, 3) := by decide +kernel
theorem dX1_sum_42 : decode cX1_sum 42 = .ok (.i2l, 1) := by decide +kernel
theorem dX1_sum_43 : decode cX1_sum 43 = .ok (.lmul, 1) := by decide +kernel
theorem dX1_sum_44 : decode cX1_sum 44 = .ok (.ladd, 1) := by decide +kernel
theorem dX1_sum_45 : decode cX1_sum 45 = .ok (.lstore 4, 2) := by decide +kernel
theorem dX1_sum_47 : decode cX1_sum 47 = .ok (.iinc 7 1, 3) := by decide +kernel
theorem dX1_sum_50 : decode cX1_sum 50 = .ok (.goto (-34), 3) := by decide +kernel
theorem dX1_sum_53 : decode cX1_sum 53 = .ok (.lload 4, 2) := by decide +kernel
theorem dX1_sum_55 : decode cX1_sum 55 = .ok (.lreturn, 1) := by decide +kernel
theorem dX1_share_0 : decode cX1_share 0 = .ok (.iload_n 1, 1) := by decide +kernel
theorem dX1_share_1 : decode cX1_share 1 = .ok (.ifCond .ne 31, 3) := by decide +kernel
theorem dX1_share_4 : decode cX1_share 4 = .ok (.iload_n 2, 1) := by decide +kernel
theorem dX1_share_5 : decode cX1_share 5 = .ok (.ifCond .lt 23, 3) := by decide +kernel
theorem dX1_share_8 : decode cX1_share 8 = .ok (.iload_n 2, 1) := by decide +kernel
theorem dX1_share_9 : decode cX1_share 9 = .ok (.aload_n 0, 1) := by decide +kernel
theorem dX1_share_10 : decode cX1_share 10 = .ok (.getfield 39, 3) := by decide +kernel
theorem dX1_share_13 : decode cX1_share 13 = .ok (.if_icmp .ge 15, 3) := by decide +kernel
theorem dX1_share_16 : decode cX1_share 16 = .ok (.aload_n 0, 1) := by decide +kernel
theorem dX1_share_17 : decode cX1_share 17 = .ok (.iload_n 3, 1) := by decide +kernel
theorem dX1_share_18 : decode cX1_share 18 = .ok (.invokevirtual 46, 3) := by decide +kernel
theorem dX1_share_21 : decode cX1_share 21 = .ok (.ifCond .eq 7, 3) := by decide +kernel
theorem dX1_share_24 : decode cX1_share 24 = .ok (.iconst 1, 1) := by decide +kernel
theorem dX1_share_25 : decode cX1_share 25 = .ok (.goto 22, 3) := by decide +kernel
theorem dX1_share_28 : decode cX1_share 28 = .ok (.iconst 0, 1) := by decide +kernel
theorem dX1_share_29 : decode cX1_share 29 = .ok (.goto 18, 3) := by decide +kernel
theorem dX1_share_32 : decode cX1_share 32 = .ok (.aload_n 0, 1) := by decide +kernel
theorem dX1_share_33 : decode cX1_share 33 = .ok (.iload_n 1, 1) := by decide +kernel
theorem dX1_share_34 : decode cX1_share 34 = .ok (.iload_n 2, 1) := by decide +kernel
theorem dX1_share_35 : decode cX1_share 35 = .ok (.iload_n 3, 1) := by decide +kernel
theorem dX1_share_36 : decode cX1_share 36 = .ok (.invokevirtual 53, 3) := by decide +kernel
theorem dX1_share_39 : decode cX1_share 39 = .ok (.ifCond .lt 7, 3) := by decide +kernel
theorem dX1_share_42 : decode cX1_share 42 = .ok (.iconst 1, 1) := by decide +kernel
theorem dX1_share_43 : decode cX1_share 43 = .ok (.goto 4, 3) := by decide +kernel
theorem dX1_share_46 : decode cX1_share 46 = .ok (.iconst 0, 1) := by decide +kernel
theorem dX1_share_47 : decode cX1_share 47 = .ok (.istore 5, 2) := by decide +kernel
theorem dX1_share_49 : decode cX1_share 49 = .ok (.iload 5, 2) := by decide +kernel
theorem dX1_share_51 : decode cX1_share 51 = .ok (.ifCond .ne 5, 3) := by decide +kernel
theorem dX1_share_54 : decode cX1_share 54 = .ok (.lconst 0, 1) := by decide +kernel
theorem dX1_share_55 : decode cX1_share 55 = .ok (.lreturn, 1) := by decide +kernel
theorem dX1_share_56 : decode cX1_share 56 = .ok (.aload_n 0, 1) := by decide +kernel
theorem dX1_share_57 : decode cX1_share 57 = .ok (.invokevirtual 86, 3) := by decide +kernel
theorem dX1_share_60 : decode cX1_share 60 = .ok (.lstore 6, 2) := by decide +kernel
theorem dX1_share_62 : decode cX1_share 62 = .ok (.aload_n 0, 1) := by decide +kernel
theorem dX1_share_63 : decode cX1_share 63 = .ok (.lload 6, 2) := by decide +kernel
theorem dX1_share_65 : decode cX1_share 65 = .ok (.lconst 0, 1) := by decide +kernel
theorem dX1_share_66 : decode cX1_share 66 = .ok (.lcmp, 1) := by decide +kernel
theorem dX1_share_67 : decode cX1_share 67 = .ok (.ifCond .ne 7, 3) := by decide +kernel
theorem dX1_share_70 : decode cX1_share 70 = .ok (.lconst 0, 1) := by decide +kernel
theorem dX1_share_71 : decode cX1_share 71 = .ok (.goto 10, 3) := by decide +kernel
theorem dX1_share_74 : decode cX1_share 74 = .ok (.aload_n 0, 1) := by decide +kernel
theorem dX1_share_75 : decode cX1_share 75 = .ok (.iload_n 1, 1) := by decide +kernel
theorem dX1_share_76 : decode cX1_share 76 = .ok (.iload_n 2, 1) := by decide +kernel
theorem dX1_share_77 : decode cX1_share 77 = .ok (.iload_n 3, 1) := by decide +kernel
theorem dX1_share_78 : decode cX1_share 78 = .ok (.invokevirtual 90, 3) := by decide +kernel
theorem dX1_share_81 : decode cX1_share 81 = .ok (.lload 6, 2) := by decide +kernel
theorem dX1_share_83 : decode cX1_share 83 = .ok (.lconst 0, 1) := by decide +kernel
theorem dX1_share_84 : decode cX1_share 84 = .ok (.lcmp, 1) := by decide +kernel
theorem dX1_share_85 : decode cX1_share 85 = .ok (.ifCond .ne 7, 3) := by decide +kernel
theorem dX1_share_88 : decode cX1_share 88 = .ok (.lconst 1, 1) := by decide +kernel
theorem dX1_share_89 : decode cX1_share 89 = .ok (.goto 5, 3) := by decide +kernel
theorem dX1_share_92 : decode cX1_share 92 = .ok (.lload 6, 2) := by decide +kernel
theorem dX1_share_94 : decode cX1_share 94 = .ok (.invokevirtual 94, 3) := by decide +kernel
theorem dX1_share_97 : decode cX1_share 97 = .ok (.aload_n 0, 1) := by decide +kernel
theorem dX1_share_98 : decode cX1_share 98 = .ok (.iload 4, 2) := by decide +kernel
theorem dX1_share_100 : decode cX1_share 100 = .ok (.invokevirtual 98, 3) := by decide +kernel
theorem dX1_share_103 : decode cX1_share 103 = .ok (.lreturn, 1) := by decide +kernel
theorem dX1_columns_0 : decode cX1_columns 0 = .ok (.iload_n 1, 1) := by decide +kernel
theorem dX1_columns_1 : decode cX1_columns 1 = .ok (.iconst 2, 1) := by decide +kernel
theorem dX1_columns_2 : decode cX1_columns 2 = .ok (.if_icmp .ne 10, 3) := by decide +kernel
theorem dX1_columns_5 : decode cX1_columns 5 = .ok (.aload_n 0, 1) := by decide +kernel
theorem dX1_columns_6 : decode cX1_columns 6 = .ok (.getfield 13, 3) := by decide +kernel
theorem dX1_columns_9 : decode cX1_columns 9 = .ok (.goto 7, 3) := by decide +kernel
theorem dX1_columns_12 : decode cX1_columns 12 = .ok (.aload_n 0, 1) := by decide +kernel
theorem dX1_columns_13 : decode cX1_columns 13 = .ok (.getfield 7, 3) := by decide +kernel
theorem dX1_columns_16 : decode cX1_columns 16 = .ok (.ireturn, 1) := by decide +kernel
theorem dX1_learnOne_0 : decode cX1_learnOne 0 = .ok (.lconst 0, 1) := by decide +kernel
theorem dX1_learnOne_1 : decode cX1_learnOne 1 = .ok (.lstore 4, 2) := by decide +kernel
theorem dX1_learnOne_3 : decode cX1_learnOne 3 = .ok (.iload_n 1, 1) := by decide +kernel
theorem dX1_learnOne_4 : decode cX1_learnOne 4 = .ok (.ifCond .ne 14, 3) := by decide +kernel
theorem dX1_learnOne_7 : decode cX1_learnOne 7 = .ok (.aload_n 0, 1) := by decide +kernel
theorem dX1_learnOne_8 : decode cX1_learnOne 8 = .ok (.getfield 39, 3) := by decide +kernel
theorem dX1_learnOne_11 : decode cX1_learnOne 11 = .ok (.ifCond .ne 7, 3) := by decide +kernel
theorem dX1_learnOne_14 : decode cX1_learnOne 14 = .ok (.lconst 0, 1) := by decide +kernel
theorem dX1_learnOne_15 : decode cX1_learnOne 15 = .ok (.goto 10, 3) := by decide +kernel
theorem dX1_learnOne_18 : decode cX1_learnOne 18 = .ok (.aload_n 0, 1) := by decide +kernel
theorem dX1_learnOne_19 : decode cX1_learnOne 19 = .ok (.iload_n 1, 1) := by decide +kernel
theorem dX1_learnOne_20 : decode cX1_learnOne 20 = .ok (.iload_n 2, 1) := by decide +kernel
theorem dX1_learnOne_21 : decode cX1_learnOne 21 = .ok (.iload_n 3, 1) := by decide +kernel
theorem dX1_learnOne_22 : decode cX1_learnOne 22 = .ok (.invokevirtual 90, 3) := by decide +kernel
theorem dX1_learnOne_25 : decode cX1_learnOne 25 = .ok (.lstore 6, 2) := by decide +kernel
theorem dX1_learnOne_27 : decode cX1_learnOne 27 = .ok (.lconst 0, 1) := by decide +kernel
theorem dX1_learnOne_28 : decode cX1_learnOne 28 = .ok (.lstore 8, 2) := by decide +kernel
theorem dX1_learnOne_30 : decode cX1_learnOne 30 = .ok (.iconst 0, 1) := by decide +kernel
theorem dX1_learnOne_31 : decode cX1_learnOne 31 = .ok (.istore 10, 2) := by decide +kernel
theorem dX1_learnOne_33 : decode cX1_learnOne 33 = .ok (.iload 10, 2) := by decide +kernel
theorem dX1_learnOne_35 : decode cX1_learnOne 35 = .ok (.aload_n 0, 1) := by decide +kernel
theorem dX1_learnOne_36 : decode cX1_learnOne 36 = .ok (.iload_n 1, 1) := by decide +kernel
theorem dX1_learnOne_37 : decode cX1_learnOne 37 = .ok (.invokevirtual 101, 3) := by decide +kernel
theorem dX1_learnOne_40 : decode cX1_learnOne 40 = .ok (.if_icmp .ge 56, 3) := by decide +kernel
theorem dX1_learnOne_43 : decode cX1_learnOne 43 = .ok (.lload 4, 2) := by decide +kernel
theorem dX1_learnOne_45 : decode cX1_learnOne 45 = .ok (.aload_n 0, 1) := by decide +kernel
theorem dX1_learnOne_46 : decode cX1_learnOne 46 = .ok (.getfield 16, 3) := by decide +kernel
theorem dX1_learnOne_49 : decode cX1_learnOne 49 = .ok (.aload_n 0, 1) := by decide +kernel
theorem dX1_learnOne_50 : decode cX1_learnOne 50 = .ok (.iload_n 1, 1) := by decide +kernel
theorem dX1_learnOne_51 : decode cX1_learnOne 51 = .ok (.iload_n 2, 1) := by decide +kernel
theorem dX1_learnOne_52 : decode cX1_learnOne 52 = .ok (.iload 10, 2) := by decide +kernel
theorem dX1_learnOne_54 : decode cX1_learnOne 54 = .ok (.invokevirtual 53, 3) := by decide +kernel
theorem dX1_learnOne_57 : decode cX1_learnOne 57 = .ok (.iaload, 1) := by decide +kernel
theorem dX1_learnOne_58 : decode cX1_learnOne 58 = .ok (.i2l, 1) := by decide +kernel
theorem dX1_learnOne_59 : decode cX1_learnOne 59 = .ok (.ladd, 1) := by decide +kernel
theorem dX1_learnOne_60 : decode cX1_learnOne 60 = .ok (.lstore 4, 2) := by decide +kernel
theorem dX1_learnOne_62 : decode cX1_learnOne 62 = .ok (.lload 8, 2) := by decide +kernel
theorem dX1_learnOne_64 : decode cX1_learnOne 64 = .ok (.iload_n 1, 1) := by decide +kernel
theorem dX1_learnOne_65 : decode cX1_learnOne 65 = .ok (.ifCond .ne 14, 3) := by decide +kernel
theorem dX1_learnOne_68 : decode cX1_learnOne 68 = .ok (.aload_n 0, 1) := by decide +kernel
theorem dX1_learnOne_69 : decode cX1_learnOne 69 = .ok (.getfield 39, 3) := by decide +kernel
theorem dX1_learnOne_72 : decode cX1_learnOne 72 = .ok (.ifCond .ne 7, 3) := by decide +kernel
theorem dX1_learnOne_75 : decode cX1_learnOne 75 = .ok (.lconst 0, 1) := by decide +kernel
theorem dX1_learnOne_76 : decode cX1_learnOne 76 = .ok (.goto 11, 3) := by decide +kernel
theorem dX1_learnOne_79 : decode cX1_learnOne 79 = .ok (.aload_n 0, 1) := by decide +kernel
theorem dX1_learnOne_80 : decode cX1_learnOne 80 = .ok (.iload_n 1, 1) := by decide +kernel
theorem dX1_learnOne_81 : decode cX1_learnOne 81 = .ok (.iload_n 2, 1) := by decide +kernel
theorem dX1_learnOne_82 : decode cX1_learnOne 82 = .ok (.iload 10, 2) := by decide +kernel
theorem dX1_learnOne_84 : decode cX1_learnOne 84 = .ok (.invokevirtual 90, 3) := by decide +kernel
theorem dX1_learnOne_87 : decode cX1_learnOne 87 = .ok (.ladd, 1) := by decide +kernel
theorem dX1_learnOne_88 : decode cX1_learnOne 88 = .ok (.lstore 8, 2) := by decide +kernel
theorem dX1_learnOne_90 : decode cX1_learnOne 90 = .ok (.iinc 10 1, 3) := by decide +kernel
theorem dX1_learnOne_93 : decode cX1_learnOne 93 = .ok (.goto (-60), 3) := by decide +kernel
theorem dX1_learnOne_96 : decode cX1_learnOne 96 = .ok (.lload 8, 2) := by decide +kernel
theorem dX1_learnOne_98 : decode cX1_learnOne 98 = .ok (.lconst 0, 1) := by decide +kernel
theorem dX1_learnOne_99 : decode cX1_learnOne 99 = .ok (.lcmp, 1) := by decide +kernel
theorem dX1_learnOne_100 : decode cX1_learnOne 100 = .ok (.ifCond .le 14, 3) := by decide +kernel
theorem dX1_learnOne_103 : decode cX1_learnOne 103 = .ok (.aload_n 0, 1) := by decide +kernel
theorem dX1_learnOne_104 : decode cX1_learnOne 104 = .ok (.lload 6, 2) := by decide +kernel
theorem dX1_learnOne_106 : decode cX1_learnOne 106 = .ok (.lload 8, 2) := by decide +kernel
theorem dX1_learnOne_108 : decode cX1_learnOne 108 = .ok (.invokevirtual 94, 3) := by decide +kernel
theorem dX1_learnOne_111 : decode cX1_learnOne 111 = .ok (.goto 44, 3) := by decide +kernel
theorem dX1_learnOne_114 : decode cX1_learnOne 114 = .ok (.aload_n 0, 1) := by decide +kernel
theorem dX1_learnOne_115 : decode cX1_learnOne 115 = .ok (.lload 4, 2) := by decide +kernel
theorem dX1_learnOne_117 : decode cX1_learnOne 117 = .ok (.lconst 0, 1) := by decide +kernel
theorem dX1_learnOne_118 : decode cX1_learnOne 118 = .ok (.lcmp, 1) := by decide +kernel
theorem dX1_learnOne_119 : decode cX1_learnOne 119 = .ok (.ifCond .ne 7, 3) := by decide +kernel
theorem dX1_learnOne_122 : decode cX1_learnOne 122 = .ok (.lconst 0, 1) := by decide +kernel
theorem dX1_learnOne_123 : decode cX1_learnOne 123 = .ok (.goto 16, 3) := by decide +kernel
theorem dX1_learnOne_126 : decode cX1_learnOne 126 = .ok (.aload_n 0, 1) := by decide +kernel
theorem dX1_learnOne_127 : decode cX1_learnOne 127 = .ok (.getfield 16, 3) := by decide +kernel
theorem dX1_learnOne_130 : decode cX1_learnOne 130 = .ok (.aload_n 0, 1) := by decide +kernel
theorem dX1_learnOne_131 : decode cX1_learnOne 131 = .ok (.iload_n 1, 1) := by decide +kernel
theorem dX1_learnOne_132 : decode cX1_learnOne 132 = .ok (.iload_n 2, 1) := by decide +kernel
theorem dX1_learnOne_133 : decode cX1_learnOne 133 = .ok (.iload_n 3, 1) := by decide +kernel
theorem dX1_learnOne_134 : decode cX1_learnOne 134 = .ok (.invokevirtual 53, 3) := by decide +kernel
theorem dX1_learnOne_137 : decode cX1_learnOne 137 = .ok (.iaload, 1) := by decide +kernel
theorem dX1_learnOne_138 : decode cX1_learnOne 138 = .ok (.i2l, 1) := by decide +kernel
theorem dX1_learnOne_139 : decode cX1_learnOne 139 = .ok (.lload 4, 2) := by decide +kernel
theorem dX1_learnOne_141 : decode cX1_learnOne 141 = .ok (.lconst 0, 1) := by decide +kernel
theorem dX1_learnOne_142 : decode cX1_learnOne 142 = .ok (.lcmp, 1) := by decide +kernel
theorem dX1_learnOne_143 : decode cX1_learnOne 143 = .ok (.ifCond .ne 7, 3) := by decide +kernel
theorem dX1_learnOne_146 : decode cX1_learnOne 146 = .ok (.lconst 1, 1) := by decide +kernel
theorem dX1_learnOne_147 : decode cX1_learnOne 147 = .ok (.goto 5, 3) := by decide +kernel
theorem dX1_learnOne_150 : decode cX1_learnOne 150 = .ok (.lload 4, 2) := by decide +kernel
theorem dX1_learnOne_152 : decode cX1_learnOne 152 = .ok (.invokevirtual 94, 3) := by decide +kernel
theorem dX1_learnOne_155 : decode cX1_learnOne 155 = .ok (.return_, 1) := by decide +kernel
theorem dX1_learned_0 : decode cX1_learned 0 = .ok (.aload_n 0, 1) := by decide +kernel
theorem dX1_learned_1 : decode cX1_learned 1 = .ok (.iload_n 1, 1) := by decide +kernel
theorem dX1_learned_2 : decode cX1_learned 2 = .ok (.iload_n 2, 1) := by decide +kernel
theorem dX1_learned_3 : decode cX1_learned 3 = .ok (.iload_n 3, 1) := by decide +kernel
theorem dX1_learned_4 : decode cX1_learned 4 = .ok (.invokevirtual 53, 3) := by decide +kernel
theorem dX1_learned_7 : decode cX1_learned 7 = .ok (.ifCond .ge 5, 3) := by decide +kernel
theorem dX1_learned_10 : decode cX1_learned 10 = .ok (.lconst 0, 1) := by decide +kernel
theorem dX1_learned_11 : decode cX1_learned 11 = .ok (.lreturn, 1) := by decide +kernel
theorem dX1_learned_12 : decode cX1_learned 12 = .ok (.aload_n 0, 1) := by decide +kernel
theorem dX1_learned_13 : decode cX1_learned 13 = .ok (.iload_n 1, 1) := by decide +kernel
theorem dX1_learned_14 : decode cX1_learned 14 = .ok (.iload_n 2, 1) := by decide +kernel
theorem dX1_learned_15 : decode cX1_learned 15 = .ok (.iload_n 3, 1) := by decide +kernel
theorem dX1_learned_16 : decode cX1_learned 16 = .ok (.invokevirtual 104, 3) := by decide +kernel
theorem dX1_learned_19 : decode cX1_learned 19 = .ok (.aload_n 0, 1) := by decide +kernel
theorem dX1_learned_20 : decode cX1_learned 20 = .ok (.iload 4, 2) := by decide +kernel
theorem dX1_learned_22 : decode cX1_learned 22 = .ok (.invokevirtual 98, 3) := by decide +kernel
theorem dX1_learned_25 : decode cX1_learned 25 = .ok (.lreturn, 1) := by decide +kernel
theorem dX1_learn_0 : decode cX1_learn 0 = .ok (.iconst 0, 1) := by decide +kernel
theorem dX1_learn_1 : decode cX1_learn 1 = .ok (.istore_n 1, 1) := by decide +kernel
theorem dX1_learn_2 : decode cX1_learn 2 = .ok (.iconst 0, 1) := by decide +kernel
theorem dX1_learn_3 : decode cX1_learn 3 = .ok (.istore_n 2, 1) := by decide +kernel
theorem dX1_learn_4 : decode cX1_learn 4 = .ok (.iload_n 2, 1) := by decide +kernel
theorem dX1_learn_5 : decode cX1_learn 5 = .ok (.iconst 3, 1) := by decide +kernel
theorem dX1_learn_6 : decode cX1_learn 6 = .ok (.if_icmp .ge 105, 3) := by decide +kernel
theorem dX1_learn_9 : decode cX1_learn 9 = .ok (.iconst 0, 1) := by decide +kernel
theorem dX1_learn_10 : decode cX1_learn 10 = .ok (.istore_n 3, 1) := by decide +kernel
theorem dX1_learn_11 : decode cX1_learn 11 = .ok (.iload_n 3, 1) := by decide +kernel
theorem dX1_learn_12 : decode cX1_learn 12 = .ok (.aload_n 0, 1) := by decide +kernel
theorem dX1_learn_13 : decode cX1_learn 13 = .ok (.getfield 7, 3) := by decide +kernel
theorem dX1_learn_16 : decode cX1_learn 16 = .ok (.if_icmp .ge 89, 3) := by decide +kernel
theorem dX1_learn_19 : decode cX1_learn 19 = .ok (.iload_n 2, 1) := by decide +kernel
theorem dX1_learn_20 : decode cX1_learn 20 = .ok (.ifCond .gt 7, 3) := by decide +kernel
theorem dX1_learn_23 : decode cX1_learn 23 = .ok (.iload_n 3, 1) := by decide +kernel
theorem dX1_learn_24 : decode cX1_learn 24 = .ok (.ifCond .ne 81, 3) := by decide +kernel
theorem dX1_learn_27 : decode cX1_learn 27 = .ok (.iconst 0, 1) := by decide +kernel
theorem dX1_learn_28 : decode cX1_learn 28 = .ok (.istore 4, 2) := by decide +kernel
theorem dX1_learn_30 : decode cX1_learn 30 = .ok (.iload 4, 2) := by decide +kernel
theorem dX1_learn_32 : decode cX1_learn 32 = .ok (.aload_n 0, 1) := by decide +kernel
theorem dX1_learn_33 : decode cX1_learn 33 = .ok (.iload_n 2, 1) := by decide +kernel
theorem dX1_learn_34 : decode cX1_learn 34 = .ok (.invokevirtual 101, 3) := by decide +kernel
theorem dX1_learn_37 : decode cX1_learn 37 = .ok (.if_icmp .ge 62, 3) := by decide +kernel
theorem dX1_learn_40 : decode cX1_learn 40 = .ok (.aload_n 0, 1) := by decide +kernel
theorem dX1_learn_41 : decode cX1_learn 41 = .ok (.iload_n 2, 1) := by decide +kernel
theorem dX1_learn_42 : decode cX1_learn 42 = .ok (.iload_n 3, 1) := by decide +kernel
theorem dX1_learn_43 : decode cX1_learn 43 = .ok (.iload 4, 2) := by decide +kernel
theorem dX1_learn_45 : decode cX1_learn 45 = .ok (.invokevirtual 104, 3) := by decide +kernel
theorem dX1_learn_48 : decode cX1_learn 48 = .ok (.ldc2_w 107, 3) := by decide +kernel
theorem dX1_learn_51 : decode cX1_learn 51 = .ok (.aload_n 0, 1) := by decide +kernel
theorem dX1_learn_52 : decode cX1_learn 52 = .ok (.getfield 76, 3) := by decide +kernel
theorem dX1_learn_55 : decode cX1_learn 55 = .ok (.lmul, 1) := by decide +kernel
theorem dX1_learn_56 : decode cX1_learn 56 = .ok (.aload_n 0, 1) := by decide +kernel
theorem dX1_learn_57 : decode cX1_learn 57 = .ok (.getfield 80, 3) := by decide +kernel
theorem dX1_learn_60 : decode cX1_learn 60 = .ok (.ladd, 1) := by decide +kernel
theorem dX1_learn_61 : decode cX1_learn 61 = .ok (.ldc2_w 109, 3) := by decide +kernel
theorem dX1_learn_64 : decode cX1_learn 64 = .ok (.aload_n 0, 1) := by decide +kernel
theorem dX1_learn_65 : decode cX1_learn 65 = .ok (.getfield 80, 3) := by decide +kernel
theorem dX1_learn_68 : decode cX1_learn 68 = .ok (.lmul, 1) := by decide +kernel
theorem dX1_learn_69 : decode cX1_learn 69 = .ok (.ldiv, 1) := by decide +kernel
theorem dX1_learn_70 : decode cX1_learn 70 = .ok (.l2i, 1) := by decide +kernel
theorem dX1_learn_71 : decode cX1_learn 71 = .ok (.istore 5, 2) := by decide +kernel
theorem dX1_learn_73 : decode cX1_learn 73 = .ok (.aload_n 0, 1) := by decide +kernel
theorem dX1_learn_74 : decode cX1_learn 74 = .ok (.getfield 33, 3) := by decide +kernel
theorem dX1_learn_77 : decode cX1_learn 77 = .ok (.aload_n 0, 1) := by decide +kernel
theorem dX1_learn_78 : decode cX1_learn 78 = .ok (.iload_n 2, 1) := by decide +kernel
theorem dX1_learn_79 : decode cX1_learn 79 = .ok (.iload_n 3, 1) := by decide +kernel
theorem dX1_learn_80 : decode cX1_learn 80 = .ok (.iload 4, 2) := by decide +kernel
theorem dX1_learn_82 : decode cX1_learn 82 = .ok (.invokevirtual 53, 3) := by decide +kernel
theorem dX1_learn_85 : decode cX1_learn 85 = .ok (.iload 5, 2) := by decide +kernel
theorem dX1_learn_87 : decode cX1_learn 87 = .ok (.iastore, 1) := by decide +kernel
theorem dX1_learn_88 : decode cX1_learn 88 = .ok (.iload_n 1, 1) := by decide +kernel
theorem dX1_learn_89 : decode cX1_learn 89 = .ok (.iload 5, 2) := by decide +kernel
theorem dX1_learn_91 : decode cX1_learn 91 = .ok (.iadd, 1) := by decide +kernel
theorem dX1_learn_92 : decode cX1_learn 92 = .ok (.istore_n 1, 1) := by decide +kernel
theorem dX1_learn_93 : decode cX1_learn 93 = .ok (.iinc 4 1, 3) := by decide +kernel
theorem dX1_learn_96 : decode cX1_learn 96 = .ok (.goto (-66), 3) := by decide +kernel
theorem dX1_learn_99 : decode cX1_learn 99 = .ok (.iinc 3 1, 3) := by decide +kernel
theorem dX1_learn_102 : decode cX1_learn 102 = .ok (.goto (-91), 3) := by decide +kernel
theorem dX1_learn_105 : decode cX1_learn 105 = .ok (.iinc 2 1, 3) := by decide +kernel
theorem dX1_learn_108 : decode cX1_learn 108 = .ok (.goto (-104), 3) := by decide +kernel
theorem dX1_learn_111 : decode cX1_learn 111 = .ok (.iconst 0, 1) := by decide +kernel
theorem dX1_learn_112 : decode cX1_learn 112 = .ok (.istore_n 2, 1) := by decide +kernel
theorem dX1_learn_113 : decode cX1_learn 113 = .ok (.iload_n 2, 1) := by decide +kernel
theorem dX1_learn_114 : decode cX1_learn 114 = .ok (.iconst 3, 1) := by decide +kernel
theorem dX1_learn_115 : decode cX1_learn 115 = .ok (.if_icmp .ge 78, 3) := by decide +kernel
theorem dX1_learn_118 : decode cX1_learn 118 = .ok (.iconst 0, 1) := by decide +kernel
theorem dX1_learn_119 : decode cX1_learn 119 = .ok (.istore_n 3, 1) := by decide +kernel
theorem dX1_learn_120 : decode cX1_learn 120 = .ok (.iload_n 3, 1) := by decide +kernel
theorem dX1_learn_121 : decode cX1_learn 121 = .ok (.aload_n 0, 1) := by decide +kernel
theorem dX1_learn_122 : decode cX1_learn 122 = .ok (.getfield 7, 3) := by decide +kernel
theorem dX1_learn_125 : decode cX1_learn 125 = .ok (.if_icmp .ge 62, 3) := by decide +kernel
theorem dX1_learn_128 : decode cX1_learn 128 = .ok (.iload_n 2, 1) := by decide +kernel
theorem dX1_learn_129 : decode cX1_learn 129 = .ok (.ifCond .gt 7, 3) := by decide +kernel
theorem dX1_learn_132 : decode cX1_learn 132 = .ok (.iload_n 3, 1) := by decide +kernel
theorem dX1_learn_133 : decode cX1_learn 133 = .ok (.ifCond .ne 54, 3) := by decide +kernel
theorem dX1_learn_136 : decode cX1_learn 136 = .ok (.iconst 0, 1) := by decide +kernel
theorem dX1_learn_137 : decode cX1_learn 137 = .ok (.istore 4, 2) := by decide +kernel
theorem dX1_learn_139 : decode cX1_learn 139 = .ok (.iload 4, 2) := by decide +kernel
theorem dX1_learn_141 : decode cX1_learn 141 = .ok (.aload_n 0, 1) := by decide +kernel
theorem dX1_learn_142 : decode cX1_learn 142 = .ok (.iload_n 2, 1) := by decide +kernel
theorem dX1_learn_143 : decode cX1_learn 143 = .ok (.invokevirtual 101, 3) := by decide +kernel
theorem dX1_learn_146 : decode cX1_learn 146 = .ok (.if_icmp .ge 35, 3) := by decide +kernel
theorem dX1_learn_149 : decode cX1_learn 149 = .ok (.aload_n 0, 1) := by decide +kernel
theorem dX1_learn_150 : decode cX1_learn 150 = .ok (.getfield 16, 3) := by decide +kernel
theorem dX1_learn_153 : decode cX1_learn 153 = .ok (.aload_n 0, 1) := by decide +kernel
theorem dX1_learn_154 : decode cX1_learn 154 = .ok (.iload_n 2, 1) := by decide +kernel
theorem dX1_learn_155 : decode cX1_learn 155 = .ok (.iload_n 3, 1) := by decide +kernel
theorem dX1_learn_156 : decode cX1_learn 156 = .ok (.iload 4, 2) := by decide +kernel
theorem dX1_learn_158 : decode cX1_learn 158 = .ok (.invokevirtual 53, 3) := by decide +kernel
theorem dX1_learn_161 : decode cX1_learn 161 = .ok (.aload_n 0, 1) := by decide +kernel
theorem dX1_learn_162 : decode cX1_learn 162 = .ok (.getfield 33, 3) := by decide +kernel
theorem dX1_learn_165 : decode cX1_learn 165 = .ok (.aload_n 0, 1) := by decide +kernel
theorem dX1_learn_166 : decode cX1_learn 166 = .ok (.iload_n 2, 1) := by decide +kernel
theorem dX1_learn_167 : decode cX1_learn 167 = .ok (.iload_n 3, 1) := by decide +kernel
theorem dX1_learn_168 : decode cX1_learn 168 = .ok (.iload 4, 2) := by decide +kernel
theorem dX1_learn_170 : decode cX1_learn 170 = .ok (.invokevirtual 53, 3) := by decide +kernel
theorem dX1_learn_173 : decode cX1_learn 173 = .ok (.iaload, 1) := by decide +kernel
theorem dX1_learn_174 : decode cX1_learn 174 = .ok (.iastore, 1) := by decide +kernel
theorem dX1_learn_175 : decode cX1_learn 175 = .ok (.iinc 4 1, 3) := by decide +kernel
theorem dX1_learn_178 : decode cX1_learn 178 = .ok (.goto (-39), 3) := by decide +kernel
theorem dX1_learn_181 : decode cX1_learn 181 = .ok (.iinc 3 1, 3) := by decide +kernel
theorem dX1_learn_184 : decode cX1_learn 184 = .ok (.goto (-64), 3) := by decide +kernel
theorem dX1_learn_187 : decode cX1_learn 187 = .ok (.iinc 2 1, 3) := by decide +kernel
theorem dX1_learn_190 : decode cX1_learn 190 = .ok (.goto (-77), 3) := by decide +kernel
theorem dX1_learn_193 : decode cX1_learn 193 = .ok (.iload_n 1, 1) := by decide +kernel
theorem dX1_learn_194 : decode cX1_learn 194 = .ok (.ireturn, 1) := by decide +kernel
theorem dX1_draw_0 : decode cX1_draw 0 = .ok (.lload_n 1, 1) := by decide +kernel
theorem dX1_draw_1 : decode cX1_draw 1 = .ok (.lconst 0, 1) := by decide +kernel
theorem dX1_draw_2 : decode cX1_draw 2 = .ok (.lcmp, 1) := by decide +kernel
theorem dX1_draw_3 : decode cX1_draw 3 = .ok (.ifCond .ge 5, 3) := by decide +kernel
theorem dX1_draw_6 : decode cX1_draw 6 = .ok (.iconst 0, 1) := by decide +kernel
theorem dX1_draw_7 : decode cX1_draw 7 = .ok (.ireturn, 1) := by decide +kernel
theorem dX1_draw_8 : decode cX1_draw 8 = .ok (.lload_n 1, 1) := by decide +kernel
theorem dX1_draw_9 : decode cX1_draw 9 = .ok (.lstore_n 3, 1) := by decide +kernel
theorem dX1_draw_10 : decode cX1_draw 10 = .ok (.aload_n 0, 1) := by decide +kernel
theorem dX1_draw_11 : decode cX1_draw 11 = .ok (.aload_n 0, 1) := by decide +kernel
theorem dX1_draw_12 : decode cX1_draw 12 = .ok (.getfield 39, 3) := by decide +kernel
theorem dX1_draw_15 : decode cX1_draw 15 = .ok (.invokevirtual 65, 3) := by decide +kernel
theorem dX1_draw_18 : decode cX1_draw 18 = .ok (.istore 5, 2) := by decide +kernel
theorem dX1_draw_20 : decode cX1_draw 20 = .ok (.iconst 0, 1) := by decide +kernel
theorem dX1_draw_21 : decode cX1_draw 21 = .ok (.istore 6, 2) := by decide +kernel
theorem dX1_draw_23 : decode cX1_draw 23 = .ok (.iload 6, 2) := by decide +kernel
theorem dX1_draw_25 : decode cX1_draw 25 = .ok (.iload 5, 2) := by decide +kernel
theorem dX1_draw_27 : decode cX1_draw 27 = .ok (.if_icmp .ge 76, 3) := by decide +kernel
theorem dX1_draw_30 : decode cX1_draw 30 = .ok (.aload_n 0, 1) := by decide +kernel
theorem dX1_draw_31 : decode cX1_draw 31 = .ok (.iload 6, 2) := by decide +kernel
theorem dX1_draw_33 : decode cX1_draw 33 = .ok (.invokevirtual 69, 3) := by decide +kernel
theorem dX1_draw_36 : decode cX1_draw 36 = .ok (.lstore 7, 2) := by decide +kernel
theorem dX1_draw_38 : decode cX1_draw 38 = .ok (.lload_n 3, 1) := by decide +kernel
theorem dX1_draw_39 : decode cX1_draw 39 = .ok (.lload 7, 2) := by decide +kernel
theorem dX1_draw_41 : decode cX1_draw 41 = .ok (.lcmp, 1) := by decide +kernel
theorem dX1_draw_42 : decode cX1_draw 42 = .ok (.ifCond .ge 50, 3) := by decide +kernel
theorem dX1_draw_45 : decode cX1_draw 45 = .ok (.aload_n 0, 1) := by decide +kernel
theorem dX1_draw_46 : decode cX1_draw 46 = .ok (.iconst 1, 1) := by decide +kernel
theorem dX1_draw_47 : decode cX1_draw 47 = .ok (.putfield 42, 3) := by decide +kernel
theorem dX1_draw_50 : decode cX1_draw 50 = .ok (.aload_n 0, 1) := by decide +kernel
theorem dX1_draw_51 : decode cX1_draw 51 = .ok (.aload_n 0, 1) := by decide +kernel
theorem dX1_draw_52 : decode cX1_draw 52 = .ok (.getfield 39, 3) := by decide +kernel
theorem dX1_draw_55 : decode cX1_draw 55 = .ok (.putfield 111, 3) := by decide +kernel
theorem dX1_draw_58 : decode cX1_draw 58 = .ok (.iconst 0, 1) := by decide +kernel
theorem dX1_draw_59 : decode cX1_draw 59 = .ok (.istore 9, 2) := by decide +kernel
theorem dX1_draw_61 : decode cX1_draw 61 = .ok (.iload 9, 2) := by decide +kernel
theorem dX1_draw_63 : decode cX1_draw 63 = .ok (.aload_n 0, 1) := by decide +kernel
theorem dX1_draw_64 : decode cX1_draw 64 = .ok (.getfield 39, 3) := by decide +kernel
theorem dX1_draw_67 : decode cX1_draw 67 = .ok (.if_icmp .ge 23, 3) := by decide +kernel
theorem dX1_draw_70 : decode cX1_draw 70 = .ok (.aload_n 0, 1) := by decide +kernel
theorem dX1_draw_71 : decode cX1_draw 71 = .ok (.getfield 26, 3) := by decide +kernel
theorem dX1_draw_74 : decode cX1_draw 74 = .ok (.iload 9, 2) := by decide +kernel
theorem dX1_draw_76 : decode cX1_draw 76 = .ok (.aload_n 0, 1) := by decide +kernel
theorem dX1_draw_77 : decode cX1_draw 77 = .ok (.getfield 23, 3) := by decide +kernel
theorem dX1_draw_80 : decode cX1_draw 80 = .ok (.iload 9, 2) := by decide +kernel
theorem dX1_draw_82 : decode cX1_draw 82 = .ok (.iaload, 1) := by decide +kernel
theorem dX1_draw_83 : decode cX1_draw 83 = .ok (.iastore, 1) := by decide +kernel
theorem dX1_draw_84 : decode cX1_draw 84 = .ok (.iinc 9 1, 3) := by decide +kernel
theorem dX1_draw_87 : decode cX1_draw 87 = .ok (.goto (-26), 3) := by decide +kernel
theorem dX1_draw_90 : decode cX1_draw 90 = .ok (.iconst 1, 1) := by decide +kernel
theorem dX1_draw_91 : decode cX1_draw 91 = .ok (.ireturn, 1) := by decide +kernel
theorem dX1_draw_92 : decode cX1_draw 92 = .ok (.lload_n 3, 1) := by decide +kernel
theorem dX1_draw_93 : decode cX1_draw 93 = .ok (.lload 7, 2) := by decide +kernel
theorem dX1_draw_95 : decode cX1_draw 95 = .ok (.lsub, 1) := by decide +kernel
theorem dX1_draw_96 : decode cX1_draw 96 = .ok (.lstore_n 3, 1) := by decide +kernel
theorem dX1_draw_97 : decode cX1_draw 97 = .ok (.iinc 6 1, 3) := by decide +kernel
theorem dX1_draw_100 : decode cX1_draw 100 = .ok (.goto (-77), 3) := by decide +kernel
theorem dX1_draw_103 : decode cX1_draw 103 = .ok (.iconst 0, 1) := by decide +kernel
theorem dX1_draw_104 : decode cX1_draw 104 = .ok (.ireturn, 1) := by decide +kernel
theorem dX1_drawn_0 : decode cX1_drawn 0 = .ok (.aload_n 0, 1) := by decide +kernel
theorem dX1_drawn_1 : decode cX1_drawn 1 = .ok (.getfield 42, 3) := by decide +kernel
theorem dX1_drawn_4 : decode cX1_drawn 4 = .ok (.ifCond .eq 24, 3) := by decide +kernel
theorem dX1_drawn_7 : decode cX1_drawn 7 = .ok (.iload_n 1, 1) := by decide +kernel
theorem dX1_drawn_8 : decode cX1_drawn 8 = .ok (.ifCond .lt 20, 3) := by decide +kernel
theorem dX1_drawn_11 : decode cX1_drawn 11 = .ok (.iload_n 1, 1) := by decide +kernel
theorem dX1_drawn_12 : decode cX1_drawn 12 = .ok (.aload_n 0, 1) := by decide +kernel
theorem dX1_drawn_13 : decode cX1_drawn 13 = .ok (.getfield 111, 3) := by decide +kernel
theorem dX1_drawn_16 : decode cX1_drawn 16 = .ok (.if_icmp .ge 12, 3) := by decide +kernel
theorem dX1_drawn_19 : decode cX1_drawn 19 = .ok (.aload_n 0, 1) := by decide +kernel
theorem dX1_drawn_20 : decode cX1_drawn 20 = .ok (.getfield 26, 3) := by decide +kernel
theorem dX1_drawn_23 : decode cX1_drawn 23 = .ok (.iload_n 1, 1) := by decide +kernel
theorem dX1_drawn_24 : decode cX1_drawn 24 = .ok (.iaload, 1) := by decide +kernel
theorem dX1_drawn_25 : decode cX1_drawn 25 = .ok (.goto 4, 3) := by decide +kernel
theorem dX1_drawn_28 : decode cX1_drawn 28 = .ok (.iconst (-1), 1) := by decide +kernel
theorem dX1_drawn_29 : decode cX1_drawn 29 = .ok (.ireturn, 1) := by decide +kernel
