theorem dX0_init_0 : decode cX0_init 0 = .ok (.aload_n 0, 1) := by decide +kernel
theorem dX0_init_1 : decode cX0_init 1 = .ok (.invokespecial 1, 3) := by decide +kernel
theorem dX0_init_4 : decode cX0_init 4 = .ok (.aload_n 0, 1) := by decide +kernel
theorem dX0_init_5 : decode cX0_init 5 = .ok (.bipush 36, 2) := by decide +kernel
theorem dX0_init_7 : decode cX0_init 7 = .ok (.newarray .int, 2) := by decide +kernel
theorem dX0_init_9 : decode cX0_init 9 = .ok (.putfield 9, 3) := by decide +kernel
theorem dX0_init_12 : decode cX0_init 12 = .ok (.aload_n 0, 1) := by decide +kernel
theorem dX0_init_13 : decode cX0_init 13 = .ok (.bipush 36, 2) := by decide +kernel
theorem dX0_init_15 : decode cX0_init 15 = .ok (.newarray .int, 2) := by decide +kernel
theorem dX0_init_17 : decode cX0_init 17 = .ok (.putfield 13, 3) := by decide +kernel
theorem dX0_init_20 : decode cX0_init 20 = .ok (.aload_n 0, 1) := by decide +kernel
theorem dX0_init_21 : decode cX0_init 21 = .ok (.bipush 6, 2) := by decide +kernel
theorem dX0_init_23 : decode cX0_init 23 = .ok (.newarray .int, 2) := by decide +kernel
theorem dX0_init_25 : decode cX0_init 25 = .ok (.putfield 16, 3) := by decide +kernel
theorem dX0_init_28 : decode cX0_init 28 = .ok (.aload_n 0, 1) := by decide +kernel
theorem dX0_init_29 : decode cX0_init 29 = .ok (.bipush 18, 2) := by decide +kernel
theorem dX0_init_31 : decode cX0_init 31 = .ok (.newarray .long, 2) := by decide +kernel
theorem dX0_init_33 : decode cX0_init 33 = .ok (.putfield 19, 3) := by decide +kernel
theorem dX0_init_36 : decode cX0_init 36 = .ok (.aload_n 0, 1) := by decide +kernel
theorem dX0_init_37 : decode cX0_init 37 = .ok (.bipush 18, 2) := by decide +kernel
theorem dX0_init_39 : decode cX0_init 39 = .ok (.newarray .long, 2) := by decide +kernel
theorem dX0_init_41 : decode cX0_init 41 = .ok (.putfield 23, 3) := by decide +kernel
theorem dX0_init_44 : decode cX0_init 44 = .ok (.aload_n 0, 1) := by decide +kernel
theorem dX0_init_45 : decode cX0_init 45 = .ok (.bipush 12, 2) := by decide +kernel
theorem dX0_init_47 : decode cX0_init 47 = .ok (.newarray .long, 2) := by decide +kernel
theorem dX0_init_49 : decode cX0_init 49 = .ok (.putfield 26, 3) := by decide +kernel
theorem dX0_init_52 : decode cX0_init 52 = .ok (.aload_n 0, 1) := by decide +kernel
theorem dX0_init_53 : decode cX0_init 53 = .ok (.bipush 12, 2) := by decide +kernel
theorem dX0_init_55 : decode cX0_init 55 = .ok (.newarray .int, 2) := by decide +kernel
theorem dX0_init_57 : decode cX0_init 57 = .ok (.putfield 29, 3) := by decide +kernel
theorem dX0_init_60 : decode cX0_init 60 = .ok (.aload_n 0, 1) := by decide +kernel
theorem dX0_init_61 : decode cX0_init 61 = .ok (.bipush 6, 2) := by decide +kernel
theorem dX0_init_63 : decode cX0_init 63 = .ok (.newarray .int, 2) := by decide +kernel
theorem dX0_init_65 : decode cX0_init 65 = .ok (.putfield 32, 3) := by decide +kernel
theorem dX0_init_68 : decode cX0_init 68 = .ok (.aload_n 0, 1) := by decide +kernel
theorem dX0_init_69 : decode cX0_init 69 = .ok (.iconst 1, 1) := by decide +kernel
theorem dX0_init_70 : decode cX0_init 70 = .ok (.iconst 1, 1) := by decide +kernel
theorem dX0_init_71 : decode cX0_init 71 = .ok (.invokevirtual 35, 3) := by decide +kernel
theorem dX0_init_74 : decode cX0_init 74 = .ok (.return_, 1) := by decide +kernel
theorem dX0_size_0 : decode cX0_size 0 = .ok (.iload_n 1, 1) := by decide +kernel
theorem dX0_size_1 : decode cX0_size 1 = .ok (.iconst 1, 1) := by decide +kernel
theorem dX0_size_2 : decode cX0_size 2 = .ok (.if_icmp .lt 18, 3) := by decide +kernel
theorem dX0_size_5 : decode cX0_size 5 = .ok (.iload_n 1, 1) := by decide +kernel
theorem dX0_size_6 : decode cX0_size 6 = .ok (.iconst 3, 1) := by decide +kernel
theorem dX0_size_7 : decode cX0_size 7 = .ok (.if_icmp .gt 13, 3) := by decide +kernel
theorem dX0_size_10 : decode cX0_size 10 = .ok (.iload_n 2, 1) := by decide +kernel
theorem dX0_size_11 : decode cX0_size 11 = .ok (.iconst 1, 1) := by decide +kernel
theorem dX0_size_12 : decode cX0_size 12 = .ok (.if_icmp .lt 8, 3) := by decide +kernel
theorem dX0_size_15 : decode cX0_size 15 = .ok (.iload_n 2, 1) := by decide +kernel
theorem dX0_size_16 : decode cX0_size 16 = .ok (.iconst 4, 1) := by decide +kernel
theorem dX0_size_17 : decode cX0_size 17 = .ok (.if_icmp .le 5, 3) := by decide +kernel
theorem dX0_size_20 : decode cX0_size 20 = .ok (.iconst 0, 1) := by decide +kernel
theorem dX0_size_21 : decode cX0_size 21 = .ok (.ireturn, 1) := by decide +kernel
theorem dX0_size_22 : decode cX0_size 22 = .ok (.aload_n 0, 1) := by decide +kernel
theorem dX0_size_23 : decode cX0_size 23 = .ok (.iload_n 1, 1) := by decide +kernel
theorem dX0_size_24 : decode cX0_size 24 = .ok (.iload_n 2, 1) := by decide +kernel
theorem dX0_size_25 : decode cX0_size 25 = .ok (.invokevirtual 35, 3) := by decide +kernel
theorem dX0_size_28 : decode cX0_size 28 = .ok (.iconst 1, 1) := by decide +kernel
theorem dX0_size_29 : decode cX0_size 29 = .ok (.ireturn, 1) := by decide +kernel
theorem dX0_weigh_0 : decode cX0_weigh 0 = .ok (.aload_n 0, 1) := by decide +kernel
theorem dX0_weigh_1 : decode cX0_weigh 1 = .ok (.iload_n 1, 1) := by decide +kernel
theorem dX0_weigh_2 : decode cX0_weigh 2 = .ok (.iload_n 2, 1) := by decide +kernel
theorem dX0_weigh_3 : decode cX0_weigh 3 = .ok (.iload_n 3, 1) := by decide +kernel
theorem dX0_weigh_4 : decode cX0_weigh 4 = .ok (.invokevirtual 39, 3) := by decide +kernel
theorem dX0_weigh_7 : decode cX0_weigh 7 = .ok (.ifCond .eq 15, 3) := by decide +kernel
theorem dX0_weigh_10 : decode cX0_weigh 10 = .ok (.iload 4, 2) := by decide +kernel
theorem dX0_weigh_12 : decode cX0_weigh 12 = .ok (.ifCond .lt 10, 3) := by decide +kernel
theorem dX0_weigh_15 : decode cX0_weigh 15 = .ok (.iload 4, 2) := by decide +kernel
theorem dX0_weigh_17 : decode cX0_weigh 17 = .ok (.bipush 9, 2) := by decide +kernel
theorem dX0_weigh_19 : decode cX0_weigh 19 = .ok (.if_icmp .le 5, 3) := by decide +kernel
theorem dX0_weigh_22 : decode cX0_weigh 22 = .ok (.iconst 0, 1) := by decide +kernel
theorem dX0_weigh_23 : decode cX0_weigh 23 = .ok (.ireturn, 1) := by decide +kernel
theorem dX0_weigh_24 : decode cX0_weigh 24 = .ok (.aload_n 0, 1) := by decide +kernel
theorem dX0_weigh_25 : decode cX0_weigh 25 = .ok (.getfield 9, 3) := by decide +kernel
theorem dX0_weigh_28 : decode cX0_weigh 28 = .ok (.iload_n 1, 1) := by decide +kernel
theorem dX0_weigh_29 : decode cX0_weigh 29 = .ok (.iload_n 2, 1) := by decide +kernel
theorem dX0_weigh_30 : decode cX0_weigh 30 = .ok (.iload_n 3, 1) := by decide +kernel
theorem dX0_weigh_31 : decode cX0_weigh 31 = .ok (.invokestatic 43, 3) := by decide +kernel
theorem dX0_weigh_34 : decode cX0_weigh 34 = .ok (.iload 4, 2) := by decide +kernel
theorem dX0_weigh_36 : decode cX0_weigh 36 = .ok (.iastore, 1) := by decide +kernel
theorem dX0_weigh_37 : decode cX0_weigh 37 = .ok (.aload_n 0, 1) := by decide +kernel
theorem dX0_weigh_38 : decode cX0_weigh 38 = .ok (.invokevirtual 47, 3) := by decide +kernel
theorem dX0_weigh_41 : decode cX0_weigh 41 = .ok (.iconst 1, 1) := by decide +kernel
theorem dX0_weigh_42 : decode cX0_weigh 42 = .ok (.ireturn, 1) := by decide +kernel
theorem dX0_weight_0 : decode cX0_weight 0 = .ok (.aload_n 0, 1) := by decide +kernel
theorem dX0_weight_1 : decode cX0_weight 1 = .ok (.iload_n 1, 1) := by decide +kernel
theorem dX0_weight_2 : decode cX0_weight 2 = .ok (.iload_n 2, 1) := by decide +kernel
theorem dX0_weight_3 : decode cX0_weight 3 = .ok (.iload_n 3, 1) := by decide +kernel
theorem dX0_weight_4 : decode cX0_weight 4 = .ok (.invokevirtual 39, 3) := by decide +kernel
theorem dX0_weight_7 : decode cX0_weight 7 = .ok (.ifCond .eq 17, 3) := by decide +kernel
theorem dX0_weight_10 : decode cX0_weight 10 = .ok (.aload_n 0, 1) := by decide +kernel
theorem dX0_weight_11 : decode cX0_weight 11 = .ok (.getfield 9, 3) := by decide +kernel
theorem dX0_weight_14 : decode cX0_weight 14 = .ok (.iload_n 1, 1) := by decide +kernel
theorem dX0_weight_15 : decode cX0_weight 15 = .ok (.iload_n 2, 1) := by decide +kernel
theorem dX0_weight_16 : decode cX0_weight 16 = .ok (.iload_n 3, 1) := by decide +kernel
theorem dX0_weight_17 : decode cX0_weight 17 = .ok (.invokestatic 43, 3) := by decide +kernel
theorem dX0_weight_20 : decode cX0_weight 20 = .ok (.iaload, 1) := by decide +kernel
theorem dX0_weight_21 : decode cX0_weight 21 = .ok (.goto 4, 3) := by decide +kernel
theorem dX0_weight_24 : decode cX0_weight 24 = .ok (.iconst (-1), 1) := by decide +kernel
theorem dX0_weight_25 : decode cX0_weight 25 = .ok (.ireturn, 1) := by decide +kernel
theorem dX0_see_0 : decode cX0_see 0 = .ok (.iload_n 1, 1) := by decide +kernel
theorem dX0_see_1 : decode cX0_see 1 = .ok (.ifCond .lt 20, 3) := by decide +kernel
theorem dX0_see_4 : decode cX0_see 4 = .ok (.iload_n 1, 1) := by decide +kernel
theorem dX0_see_5 : decode cX0_see 5 = .ok (.aload_n 0, 1) := by decide +kernel
theorem dX0_see_6 : decode cX0_see 6 = .ok (.getfield 50, 3) := by decide +kernel
theorem dX0_see_9 : decode cX0_see 9 = .ok (.if_icmp .ge 12, 3) := by decide +kernel
theorem dX0_see_12 : decode cX0_see 12 = .ok (.aload_n 0, 1) := by decide +kernel
theorem dX0_see_13 : decode cX0_see 13 = .ok (.getfield 54, 3) := by decide +kernel
theorem dX0_see_16 : decode cX0_see 16 = .ok (.bipush 6, 2) := by decide +kernel
theorem dX0_see_18 : decode cX0_see 18 = .ok (.if_icmp .lt 5, 3) := by decide +kernel
theorem dX0_see_21 : decode cX0_see 21 = .ok (.iconst (-1), 1) := by decide +kernel
theorem dX0_see_22 : decode cX0_see 22 = .ok (.ireturn, 1) := by decide +kernel
theorem dX0_see_23 : decode cX0_see 23 = .ok (.aload_n 0, 1) := by decide +kernel
theorem dX0_see_24 : decode cX0_see 24 = .ok (.getfield 16, 3) := by decide +kernel
theorem dX0_see_27 : decode cX0_see 27 = .ok (.aload_n 0, 1) := by decide +kernel
theorem dX0_see_28 : decode cX0_see 28 = .ok (.getfield 54, 3) := by decide +kernel
theorem dX0_see_31 : decode cX0_see 31 = .ok (.iload_n 1, 1) := by decide +kernel
theorem dX0_see_32 : decode cX0_see 32 = .ok (.iastore, 1) := by decide +kernel
theorem dX0_see_33 : decode cX0_see 33 = .ok (.aload_n 0, 1) := by decide +kernel
theorem dX0_see_34 : decode cX0_see 34 = .ok (.dup, 1) := by decide +kernel
theorem dX0_see_35 : decode cX0_see 35 = .ok (.getfield 54, 3) := by decide +kernel
theorem dX0_see_38 : decode cX0_see 38 = .ok (.iconst 1, 1) := by decide +kernel
theorem dX0_see_39 : decode cX0_see 39 = .ok (.iadd, 1) := by decide +kernel
theorem dX0_see_40 : decode cX0_see 40 = .ok (.putfield 54, 3) := by decide +kernel
theorem dX0_see_43 : decode cX0_see 43 = .ok (.aload_n 0, 1) := by decide +kernel
theorem dX0_see_44 : decode cX0_see 44 = .ok (.invokevirtual 47, 3) := by decide +kernel
theorem dX0_see_47 : decode cX0_see 47 = .ok (.aload_n 0, 1) := by decide +kernel
theorem dX0_see_48 : decode cX0_see 48 = .ok (.getfield 54, 3) := by decide +kernel
theorem dX0_see_51 : decode cX0_see 51 = .ok (.ireturn, 1) := by decide +kernel
theorem dX0_forget_0 : decode cX0_forget 0 = .ok (.iload_n 1, 1) := by decide +kernel
theorem dX0_forget_1 : decode cX0_forget 1 = .ok (.ifCond .lt 11, 3) := by decide +kernel
theorem dX0_forget_4 : decode cX0_forget 4 = .ok (.iload_n 1, 1) := by decide +kernel
theorem dX0_forget_5 : decode cX0_forget 5 = .ok (.aload_n 0, 1) := by decide +kernel
theorem dX0_forget_6 : decode cX0_forget 6 = .ok (.getfield 54, 3) := by decide +kernel
theorem dX0_forget_9 : decode cX0_forget 9 = .ok (.if_icmp .le 5, 3) := by decide +kernel
theorem dX0_forget_12 : decode cX0_forget 12 = .ok (.iconst (-1), 1) := by decide +kernel
theorem dX0_forget_13 : decode cX0_forget 13 = .ok (.ireturn, 1) := by decide +kernel
theorem dX0_forget_14 : decode cX0_forget 14 = .ok (.aload_n 0, 1) := by decide +kernel
theorem dX0_forget_15 : decode cX0_forget 15 = .ok (.getfield 54, 3) := by decide +kernel
theorem dX0_forget_18 : decode cX0_forget 18 = .ok (.iload_n 1, 1) := by decide +kernel
theorem dX0_forget_19 : decode cX0_forget 19 = .ok (.isub, 1) := by decide +kernel
theorem dX0_forget_20 : decode cX0_forget 20 = .ok (.istore_n 2, 1) := by decide +kernel
theorem dX0_forget_21 : decode cX0_forget 21 = .ok (.aload_n 0, 1) := by decide +kernel
theorem dX0_forget_22 : decode cX0_forget 22 = .ok (.iload_n 1, 1) := by decide +kernel
theorem dX0_forget_23 : decode cX0_forget 23 = .ok (.putfield 54, 3) := by decide +kernel
theorem dX0_forget_26 : decode cX0_forget 26 = .ok (.aload_n 0, 1) := by decide +kernel
theorem dX0_forget_27 : decode cX0_forget 27 = .ok (.invokevirtual 47, 3) := by decide +kernel
theorem dX0_forget_30 : decode cX0_forget 30 = .ok (.iload_n 2, 1) := by decide +kernel
theorem dX0_forget_31 : decode cX0_forget 31 = .ok (.ireturn, 1) := by decide +kernel
theorem dX0_seen_0 : decode cX0_seen 0 = .ok (.aload_n 0, 1) := by decide +kernel
theorem dX0_seen_1 : decode cX0_seen 1 = .ok (.getfield 54, 3) := by decide +kernel
theorem dX0_seen_4 : decode cX0_seen 4 = .ok (.ireturn, 1) := by decide +kernel
theorem dX0_symbol_0 : decode cX0_symbol 0 = .ok (.aload_n 0, 1) := by decide +kernel
theorem dX0_symbol_1 : decode cX0_symbol 1 = .ok (.iload_n 1, 1) := by decide +kernel
theorem dX0_symbol_2 : decode cX0_symbol 2 = .ok (.invokevirtual 57, 3) := by decide +kernel
theorem dX0_symbol_5 : decode cX0_symbol 5 = .ok (.ifCond .eq 12, 3) := by decide +kernel
theorem dX0_symbol_8 : decode cX0_symbol 8 = .ok (.aload_n 0, 1) := by decide +kernel
theorem dX0_symbol_9 : decode cX0_symbol 9 = .ok (.getfield 16, 3) := by decide +kernel
theorem dX0_symbol_12 : decode cX0_symbol 12 = .ok (.iload_n 1, 1) := by decide +kernel
theorem dX0_symbol_13 : decode cX0_symbol 13 = .ok (.iaload, 1) := by decide +kernel
theorem dX0_symbol_14 : decode cX0_symbol 14 = .ok (.goto 4, 3) := by decide +kernel
theorem dX0_symbol_17 : decode cX0_symbol 17 = .ok (.iconst (-1), 1) := by decide +kernel
theorem dX0_symbol_18 : decode cX0_symbol 18 = .ok (.ireturn, 1) := by decide +kernel
theorem dX0_total_0 : decode cX0_total 0 = .ok (.aload_n 0, 1) := by decide +kernel
theorem dX0_total_1 : decode cX0_total 1 = .ok (.getfield 54, 3) := by decide +kernel
theorem dX0_total_4 : decode cX0_total 4 = .ok (.ifCond .ne 5, 3) := by decide +kernel
theorem dX0_total_7 : decode cX0_total 7 = .ok (.lconst 1, 1) := by decide +kernel
theorem dX0_total_8 : decode cX0_total 8 = .ok (.lreturn, 1) := by decide +kernel
theorem dX0_total_9 : decode cX0_total 9 = .ok (.lconst 0, 1) := by decide +kernel
theorem dX0_total_10 : decode cX0_total 10 = .ok (.lstore_n 1, 1) := by decide +kernel
theorem dX0_total_11 : decode cX0_total 11 = .ok (.iconst 0, 1) := by decide +kernel
theorem dX0_total_12 : decode cX0_total 12 = .ok (.istore_n 3, 1) := by decide +kernel
theorem dX0_total_13 : decode cX0_total 13 = .ok (.iload_n 3, 1) := by decide +kernel
theorem dX0_total_14 : decode cX0_total 14 = .ok (.aload_n 0, 1) := by decide +kernel
theorem dX0_total_15 : decode cX0_total 15 = .ok (.getfield 61, 3) := by decide +kernel
theorem dX0_total_18 : decode cX0_total 18 = .ok (.if_icmp .ge 27, 3) := by decide +kernel
theorem dX0_total_21 : decode cX0_total 21 = .ok (.lload_n 1, 1) := by decide +kernel
theorem dX0_total_22 : decode cX0_total 22 = .ok (.aload_n 0, 1) := by decide +kernel
theorem dX0_total_23 : decode cX0_total 23 = .ok (.getfield 19, 3) := by decide +kernel
theorem dX0_total_26 : decode cX0_total 26 = .ok (.aload_n 0, 1) := by decide +kernel
theorem dX0_total_27 : decode cX0_total 27 = .ok (.getfield 54, 3) := by decide +kernel
theorem dX0_total_30 : decode cX0_total 30 = .ok (.iconst 1, 1) := by decide +kernel
theorem dX0_total_31 : decode cX0_total 31 = .ok (.isub, 1) := by decide +kernel
theorem dX0_total_32 : decode cX0_total 32 = .ok (.iload_n 3, 1) := by decide +kernel
theorem dX0_total_33 : decode cX0_total 33 = .ok (.invokestatic 64, 3) := by decide +kernel
theorem dX0_total_36 : decode cX0_total 36 = .ok (.laload, 1) := by decide +kernel
theorem dX0_total_37 : decode cX0_total 37 = .ok (.ladd, 1) := by decide +kernel
theorem dX0_total_38 : decode cX0_total 38 = .ok (.lstore_n 1, 1) := by decide +kernel
theorem dX0_total_39 : decode cX0_total 39 = .ok (.iinc 3 1, 3) := by decide +kernel
theorem dX0_total_42 : decode cX0_total 42 = .ok (.goto (-29), 3) := by decide +kernel
theorem dX0_total_45 : decode cX0_total 45 = .ok (.lload_n 1, 1) := by decide +kernel
theorem dX0_total_46 : decode cX0_total 46 = .ok (.lreturn, 1) := by decide +kernel
theorem dX0_before_0 : decode cX0_before 0 = .ok (.aload_n 0, 1) := by decide +kernel
theorem dX0_before_1 : decode cX0_before 1 = .ok (.iload_n 1, 1) := by decide +kernel
theorem dX0_before_2 : decode cX0_before 2 = .ok (.invokevirtual 57, 3) := by decide +kernel
theorem dX0_before_5 : decode cX0_before 5 = .ok (.ifCond .eq 24, 3) := by decide +kernel
theorem dX0_before_8 : decode cX0_before 8 = .ok (.aload_n 0, 1) := by decide +kernel
theorem dX0_before_9 : decode cX0_before 9 = .ok (.iload_n 2, 1) := by decide +kernel
theorem dX0_before_10 : decode cX0_before 10 = .ok (.invokevirtual 68, 3) := by decide +kernel
theorem dX0_before_13 : decode cX0_before 13 = .ok (.ifCond .eq 16, 3) := by decide +kernel
theorem dX0_before_16 : decode cX0_before 16 = .ok (.aload_n 0, 1) := by decide +kernel
theorem dX0_before_17 : decode cX0_before 17 = .ok (.getfield 19, 3) := by decide +kernel
theorem dX0_before_20 : decode cX0_before 20 = .ok (.iload_n 1, 1) := by decide +kernel
theorem dX0_before_21 : decode cX0_before 21 = .ok (.iload_n 2, 1) := by decide +kernel
theorem dX0_before_22 : decode cX0_before 22 = .ok (.invokestatic 64, 3) := by decide +kernel
theorem dX0_before_25 : decode cX0_before 25 = .ok (.laload, 1) := by decide +kernel
theorem dX0_before_26 : decode cX0_before 26 = .ok (.goto 4, 3) := by decide +kernel
theorem dX0_before_29 : decode cX0_before 29 = .ok (.lconst 0, 1) := by decide +kernel
theorem dX0_before_30 : decode cX0_before 30 = .ok (.lreturn, 1) := by decide +kernel
theorem dX0_behind_0 : decode cX0_behind 0 = .ok (.aload_n 0, 1) := by decide +kernel
theorem dX0_behind_1 : decode cX0_behind 1 = .ok (.iload_n 1, 1) := by decide +kernel
theorem dX0_behind_2 : decode cX0_behind 2 = .ok (.invokevirtual 57, 3) := by decide +kernel
theorem dX0_behind_5 : decode cX0_behind 5 = .ok (.ifCond .eq 24, 3) := by decide +kernel
theorem dX0_behind_8 : decode cX0_behind 8 = .ok (.aload_n 0, 1) := by decide +kernel
theorem dX0_behind_9 : decode cX0_behind 9 = .ok (.iload_n 2, 1) := by decide +kernel
theorem dX0_behind_10 : decode cX0_behind 10 = .ok (.invokevirtual 68, 3) := by decide +kernel
theorem dX0_behind_13 : decode cX0_behind 13 = .ok (.ifCond .eq 16, 3) := by decide +kernel
theorem dX0_behind_16 : decode cX0_behind 16 = .ok (.aload_n 0, 1) := by decide +kernel
theorem dX0_behind_17 : decode cX0_behind 17 = .ok (.getfield 23, 3) := by decide +kernel
theorem dX0_behind_20 : decode cX0_behind 20 = .ok (.iload_n 1, 1) := by decide +kernel
theorem dX0_behind_21 : decode cX0_behind 21 = .ok (.iload_n 2, 1) := by decide +kernel
theorem dX0_behind_22 : decode cX0_behind 22 = .ok (.invokestatic 64, 3) := by decide +kernel
theorem dX0_behind_25 : decode cX0_behind 25 = .ok (.laload, 1) := by decide +kernel
theorem dX0_behind_26 : decode cX0_behind 26 = .ok (.goto 4, 3) := by decide +kernel
theorem dX0_behind_29 : decode cX0_behind 29 = .ok (.lconst 0, 1) := by decide +kernel
theorem dX0_behind_30 : decode cX0_behind 30 = .ok (.lreturn, 1) := by decide +kernel
theorem dX0_ways_0 : decode cX0_ways 0 = .ok (.aload_n 0, 1) := by decide +kernel
theorem dX0_ways_1 : decode cX0_ways 1 = .ok (.getfield 71, 3) := by decide +kernel
theorem dX0_ways_4 : decode cX0_ways 4 = .ok (.ireturn, 1) := by decide +kernel
theorem dX0_ranked_0 : decode cX0_ranked 0 = .ok (.aload_n 0, 1) := by decide +kernel
theorem dX0_ranked_1 : decode cX0_ranked 1 = .ok (.iload_n 1, 1) := by decide +kernel
theorem dX0_ranked_2 : decode cX0_ranked 2 = .ok (.invokevirtual 74, 3) := by decide +kernel
theorem dX0_ranked_5 : decode cX0_ranked 5 = .ok (.ifCond .eq 12, 3) := by decide +kernel
theorem dX0_ranked_8 : decode cX0_ranked 8 = .ok (.aload_n 0, 1) := by decide +kernel
theorem dX0_ranked_9 : decode cX0_ranked 9 = .ok (.getfield 26, 3) := by decide +kernel
theorem dX0_ranked_12 : decode cX0_ranked 12 = .ok (.iload_n 1, 1) := by decide +kernel
theorem dX0_ranked_13 : decode cX0_ranked 13 = .ok (.laload, 1) := by decide +kernel
theorem dX0_ranked_14 : decode cX0_ranked 14 = .ok (.goto 4, 3) := by decide +kernel
theorem dX0_ranked_17 : decode cX0_ranked 17 = .ok (.lconst 0, 1) := by decide +kernel
theorem dX0_ranked_18 : decode cX0_ranked 18 = .ok (.lreturn, 1) := by decide +kernel
theorem dX0_stateOf_0 : decode cX0_stateOf 0 = .ok (.aload_n 0, 1) := by decide +kernel
theorem dX0_stateOf_1 : decode cX0_stateOf 1 = .ok (.iload_n 1, 1) := by decide +kernel
theorem dX0_stateOf_2 : decode cX0_stateOf 2 = .ok (.invokevirtual 74, 3) := by decide +kernel
theorem dX0_stateOf_5 : decode cX0_stateOf 5 = .ok (.ifCond .eq 11, 3) := by decide +kernel
theorem dX0_stateOf_8 : decode cX0_stateOf 8 = .ok (.aload_n 0, 1) := by decide +kernel
theorem dX0_stateOf_9 : decode cX0_stateOf 9 = .ok (.iload_n 2, 1) := by decide +kernel
theorem dX0_stateOf_10 : decode cX0_stateOf 10 = .ok (.invokevirtual 57, 3) := by decide +kernel
theorem dX0_stateOf_13 : decode cX0_stateOf 13 = .ok (.ifCond .ne 5, 3) := by decide +kernel
theorem dX0_stateOf_16 : decode cX0_stateOf 16 = .ok (.iconst (-1), 1) := by decide +kernel
theorem dX0_stateOf_17 : decode cX0_stateOf 17 = .ok (.ireturn, 1) := by decide +kernel
theorem dX0_stateOf_18 : decode cX0_stateOf 18 = .ok (.aload_n 0, 1) := by decide +kernel
theorem dX0_stateOf_19 : decode cX0_stateOf 19 = .ok (.getfield 29, 3) := by decide +kernel
theorem dX0_stateOf_22 : decode cX0_stateOf 22 = .ok (.iload_n 1, 1) := by decide +kernel
theorem dX0_stateOf_23 : decode cX0_stateOf 23 = .ok (.iaload, 1) := by decide +kernel
theorem dX0_stateOf_24 : decode cX0_stateOf 24 = .ok (.iconst 2, 1) := by decide +kernel
theorem dX0_stateOf_25 : decode cX0_stateOf 25 = .ok (.aload_n 0, 1) := by decide +kernel
theorem dX0_stateOf_26 : decode cX0_stateOf 26 = .ok (.getfield 54, 3) := by decide +kernel
theorem dX0_stateOf_29 : decode cX0_stateOf 29 = .ok (.iconst 1, 1) := by decide +kernel
theorem dX0_stateOf_30 : decode cX0_stateOf 30 = .ok (.isub, 1) := by decide +kernel
theorem dX0_stateOf_31 : decode cX0_stateOf 31 = .ok (.iload_n 2, 1) := by decide +kernel
theorem dX0_stateOf_32 : decode cX0_stateOf 32 = .ok (.isub, 1) := by decide +kernel
theorem dX0_stateOf_33 : decode cX0_stateOf 33 = .ok (.imul, 1) := by decide +kernel
theorem dX0_stateOf_34 : decode cX0_stateOf 34 = .ok (.ishr, 1) := by decide +kernel
theorem dX0_stateOf_35 : decode cX0_stateOf 35 = .ok (.iconst 3, 1) := by decide +kernel
theorem dX0_stateOf_36 : decode cX0_stateOf 36 = .ok (.iand, 1) := by decide +kernel
theorem dX0_stateOf_37 : decode cX0_stateOf 37 = .ok (.ireturn, 1) := by decide +kernel
theorem dX0_share_0 : decode cX0_share 0 = .ok (.iload_n 1, 1) := by decide +kernel
theorem dX0_share_1 : decode cX0_share 1 = .ok (.ifCond .ne 27, 3) := by decide +kernel
theorem dX0_share_4 : decode cX0_share 4 = .ok (.aload_n 0, 1) := by decide +kernel
theorem dX0_share_5 : decode cX0_share 5 = .ok (.iload_n 2, 1) := by decide +kernel
theorem dX0_share_6 : decode cX0_share 6 = .ok (.invokevirtual 57, 3) := by decide +kernel
theorem dX0_share_9 : decode cX0_share 9 = .ok (.ifCond .eq 15, 3) := by decide +kernel
theorem dX0_share_12 : decode cX0_share 12 = .ok (.aload_n 0, 1) := by decide +kernel
theorem dX0_share_13 : decode cX0_share 13 = .ok (.iload_n 3, 1) := by decide +kernel
theorem dX0_share_14 : decode cX0_share 14 = .ok (.invokevirtual 68, 3) := by decide +kernel
theorem dX0_share_17 : decode cX0_share 17 = .ok (.ifCond .eq 7, 3) := by decide +kernel
theorem dX0_share_20 : decode cX0_share 20 = .ok (.iconst 1, 1) := by decide +kernel
theorem dX0_share_21 : decode cX0_share 21 = .ok (.goto 14, 3) := by decide +kernel
theorem dX0_share_24 : decode cX0_share 24 = .ok (.iconst 0, 1) := by decide +kernel
theorem dX0_share_25 : decode cX0_share 25 = .ok (.goto 10, 3) := by decide +kernel
theorem dX0_share_28 : decode cX0_share 28 = .ok (.aload_n 0, 1) := by decide +kernel
theorem dX0_share_29 : decode cX0_share 29 = .ok (.iload_n 1, 1) := by decide +kernel
theorem dX0_share_30 : decode cX0_share 30 = .ok (.iload_n 2, 1) := by decide +kernel
theorem dX0_share_31 : decode cX0_share 31 = .ok (.iload_n 3, 1) := by decide +kernel
theorem dX0_share_32 : decode cX0_share 32 = .ok (.invokevirtual 39, 3) := by decide +kernel
theorem dX0_share_35 : decode cX0_share 35 = .ok (.istore 5, 2) := by decide +kernel
theorem dX0_share_37 : decode cX0_share 37 = .ok (.iload 5, 2) := by decide +kernel
theorem dX0_share_39 : decode cX0_share 39 = .ok (.ifCond .eq 22, 3) := by decide +kernel
theorem dX0_share_42 : decode cX0_share 42 = .ok (.aload_n 0, 1) := by decide +kernel
theorem dX0_share_43 : decode cX0_share 43 = .ok (.iload_n 1, 1) := by decide +kernel
theorem dX0_share_44 : decode cX0_share 44 = .ok (.iload_n 2, 1) := by decide +kernel
theorem dX0_share_45 : decode cX0_share 45 = .ok (.iload_n 3, 1) := by decide +kernel
theorem dX0_share_46 : decode cX0_share 46 = .ok (.invokevirtual 77, 3) := by decide +kernel
theorem dX0_share_49 : decode cX0_share 49 = .ok (.aload_n 0, 1) := by decide +kernel
theorem dX0_share_50 : decode cX0_share 50 = .ok (.invokevirtual 81, 3) := by decide +kernel
theorem dX0_share_53 : decode cX0_share 53 = .ok (.iload 4, 2) := by decide +kernel
theorem dX0_share_55 : decode cX0_share 55 = .ok (.invokestatic 85, 3) := by decide +kernel
theorem dX0_share_58 : decode cX0_share 58 = .ok (.goto 4, 3) := by decide +kernel
theorem dX0_share_61 : decode cX0_share 61 = .ok (.lconst 0, 1) := by decide +kernel
theorem dX0_share_62 : decode cX0_share 62 = .ok (.lreturn, 1) := by decide +kernel
theorem dX0_learned_0 : decode cX0_learned 0 = .ok (.aload_n 0, 1) := by decide +kernel
theorem dX0_learned_1 : decode cX0_learned 1 = .ok (.iload_n 1, 1) := by decide +kernel
theorem dX0_learned_2 : decode cX0_learned 2 = .ok (.iload_n 2, 1) := by decide +kernel
theorem dX0_learned_3 : decode cX0_learned 3 = .ok (.iload_n 3, 1) := by decide +kernel
theorem dX0_learned_4 : decode cX0_learned 4 = .ok (.invokevirtual 39, 3) := by decide +kernel
theorem dX0_learned_7 : decode cX0_learned 7 = .ok (.ifCond .ne 5, 3) := by decide +kernel
theorem dX0_learned_10 : decode cX0_learned 10 = .ok (.lconst 0, 1) := by decide +kernel
theorem dX0_learned_11 : decode cX0_learned 11 = .ok (.lreturn, 1) := by decide +kernel
theorem dX0_learned_12 : decode cX0_learned 12 = .ok (.aload_n 0, 1) := by decide +kernel
theorem dX0_learned_13 : decode cX0_learned 13 = .ok (.iload_n 1, 1) := by decide +kernel
theorem dX0_learned_14 : decode cX0_learned 14 = .ok (.iload_n 2, 1) := by decide +kernel
theorem dX0_learned_15 : decode cX0_learned 15 = .ok (.invokevirtual 89, 3) := by decide +kernel
theorem dX0_learned_18 : decode cX0_learned 18 = .ok (.lstore 5, 2) := by decide +kernel
theorem dX0_learned_20 : decode cX0_learned 20 = .ok (.aload_n 0, 1) := by decide +kernel
theorem dX0_learned_21 : decode cX0_learned 21 = .ok (.iload_n 1, 1) := by decide +kernel
theorem dX0_learned_22 : decode cX0_learned 22 = .ok (.iload_n 2, 1) := by decide +kernel
theorem dX0_learned_23 : decode cX0_learned 23 = .ok (.iload_n 3, 1) := by decide +kernel
theorem dX0_learned_24 : decode cX0_learned 24 = .ok (.lload 5, 2) := by decide +kernel
theorem dX0_learned_26 : decode cX0_learned 26 = .ok (.invokevirtual 93, 3) := by decide +kernel
theorem dX0_learned_29 : decode cX0_learned 29 = .ok (.aload_n 0, 1) := by decide +kernel
theorem dX0_learned_30 : decode cX0_learned 30 = .ok (.iload_n 1, 1) := by decide +kernel
theorem dX0_learned_31 : decode cX0_learned 31 = .ok (.iload_n 2, 1) := by decide +kernel
theorem dX0_learned_32 : decode cX0_learned 32 = .ok (.lload 5, 2) := by decide +kernel
theorem dX0_learned_34 : decode cX0_learned 34 = .ok (.invokevirtual 97, 3) := by decide +kernel
theorem dX0_learned_37 : decode cX0_learned 37 = .ok (.iload 4, 2) := by decide +kernel
theorem dX0_learned_39 : decode cX0_learned 39 = .ok (.invokestatic 85, 3) := by decide +kernel
theorem dX0_learned_42 : decode cX0_learned 42 = .ok (.lreturn, 1) := by decide +kernel
theorem dX0_learn_0 : decode cX0_learn 0 = .ok (.iconst 0, 1) := by decide +kernel
theorem dX0_learn_1 : decode cX0_learn 1 = .ok (.istore_n 1, 1) := by decide +kernel
theorem dX0_learn_2 : decode cX0_learn 2 = .ok (.iconst 0, 1) := by decide +kernel
theorem dX0_learn_3 : decode cX0_learn 3 = .ok (.istore_n 2, 1) := by decide +kernel
theorem dX0_learn_4 : decode cX0_learn 4 = .ok (.iload_n 2, 1) := by decide +kernel
theorem dX0_learn_5 : decode cX0_learn 5 = .ok (.iconst 3, 1) := by decide +kernel
theorem dX0_learn_6 : decode cX0_learn 6 = .ok (.if_icmp .ge 35, 3) := by decide +kernel
theorem dX0_learn_9 : decode cX0_learn 9 = .ok (.iconst 0, 1) := by decide +kernel
theorem dX0_learn_10 : decode cX0_learn 10 = .ok (.istore_n 3, 1) := by decide +kernel
theorem dX0_learn_11 : decode cX0_learn 11 = .ok (.iload_n 3, 1) := by decide +kernel
theorem dX0_learn_12 : decode cX0_learn 12 = .ok (.aload_n 0, 1) := by decide +kernel
theorem dX0_learn_13 : decode cX0_learn 13 = .ok (.iload_n 2, 1) := by decide +kernel
theorem dX0_learn_14 : decode cX0_learn 14 = .ok (.invokevirtual 101, 3) := by decide +kernel
theorem dX0_learn_17 : decode cX0_learn 17 = .ok (.if_icmp .ge 18, 3) := by decide +kernel
theorem dX0_learn_20 : decode cX0_learn 20 = .ok (.iload_n 1, 1) := by decide +kernel
theorem dX0_learn_21 : decode cX0_learn 21 = .ok (.aload_n 0, 1) := by decide +kernel
theorem dX0_learn_22 : decode cX0_learn 22 = .ok (.iload_n 2, 1) := by decide +kernel
theorem dX0_learn_23 : decode cX0_learn 23 = .ok (.iload_n 3, 1) := by decide +kernel
theorem dX0_learn_24 : decode cX0_learn 24 = .ok (.invokevirtual 105, 3) := by decide +kernel
theorem dX0_learn_27 : decode cX0_learn 27 = .ok (.iadd, 1) := by decide +kernel
theorem dX0_learn_28 : decode cX0_learn 28 = .ok (.istore_n 1, 1) := by decide +kernel
theorem dX0_learn_29 : decode cX0_learn 29 = .ok (.iinc 3 1, 3) := by decide +kernel
theorem dX0_learn_32 : decode cX0_learn 32 = .ok (.goto (-21), 3) := by decide +kernel
theorem dX0_learn_35 : decode cX0_learn 35 = .ok (.iinc 2 1, 3) := by decide +kernel
theorem dX0_learn_38 : decode cX0_learn 38 = .ok (.goto (-34), 3) := by decide +kernel
theorem dX0_learn_41 : decode cX0_learn 41 = .ok (.aload_n 0, 1) := by decide +kernel
theorem dX0_learn_42 : decode cX0_learn 42 = .ok (.getfield 13, 3) := by decide +kernel
theorem dX0_learn_45 : decode cX0_learn 45 = .ok (.iconst 0, 1) := by decide +kernel
theorem dX0_learn_46 : decode cX0_learn 46 = .ok (.aload_n 0, 1) := by decide +kernel
theorem dX0_learn_47 : decode cX0_learn 47 = .ok (.getfield 9, 3) := by decide +kernel
theorem dX0_learn_50 : decode cX0_learn 50 = .ok (.iconst 0, 1) := by decide +kernel
theorem dX0_learn_51 : decode cX0_learn 51 = .ok (.aload_n 0, 1) := by decide +kernel
theorem dX0_learn_52 : decode cX0_learn 52 = .ok (.getfield 9, 3) := by decide +kernel
theorem dX0_learn_55 : decode cX0_learn 55 = .ok (.arraylength, 1) := by decide +kernel
theorem dX0_learn_56 : decode cX0_learn 56 = .ok (.invokestatic 108, 3) := by decide +kernel
theorem dX0_learn_59 : decode cX0_learn 59 = .ok (.aload_n 0, 1) := by decide +kernel
theorem dX0_learn_60 : decode cX0_learn 60 = .ok (.invokevirtual 47, 3) := by decide +kernel
theorem dX0_learn_63 : decode cX0_learn 63 = .ok (.iload_n 1, 1) := by decide +kernel
theorem dX0_learn_64 : decode cX0_learn 64 = .ok (.ireturn, 1) := by decide +kernel
theorem dX0_draw_0 : decode cX0_draw 0 = .ok (.lload_n 1, 1) := by decide +kernel
theorem dX0_draw_1 : decode cX0_draw 1 = .ok (.lconst 0, 1) := by decide +kernel
theorem dX0_draw_2 : decode cX0_draw 2 = .ok (.lcmp, 1) := by decide +kernel
theorem dX0_draw_3 : decode cX0_draw 3 = .ok (.ifCond .lt 12, 3) := by decide +kernel
theorem dX0_draw_6 : decode cX0_draw 6 = .ok (.lload_n 1, 1) := by decide +kernel
theorem dX0_draw_7 : decode cX0_draw 7 = .ok (.aload_n 0, 1) := by decide +kernel
theorem dX0_draw_8 : decode cX0_draw 8 = .ok (.invokevirtual 81, 3) := by decide +kernel
theorem dX0_draw_11 : decode cX0_draw 11 = .ok (.lcmp, 1) := by decide +kernel
theorem dX0_draw_12 : decode cX0_draw 12 = .ok (.ifCond .lt 5, 3) := by decide +kernel
theorem dX0_draw_15 : decode cX0_draw 15 = .ok (.iconst 0, 1) := by decide +kernel
theorem dX0_draw_16 : decode cX0_draw 16 = .ok (.ireturn, 1) := by decide +kernel
theorem dX0_draw_17 : decode cX0_draw 17 = .ok (.lload_n 1, 1) := by decide +kernel
theorem dX0_draw_18 : decode cX0_draw 18 = .ok (.lstore_n 3, 1) := by decide +kernel
theorem dX0_draw_19 : decode cX0_draw 19 = .ok (.lconst 1, 1) := by decide +kernel
theorem dX0_draw_20 : decode cX0_draw 20 = .ok (.lstore 5, 2) := by decide +kernel
theorem dX0_draw_22 : decode cX0_draw 22 = .ok (.iconst 0, 1) := by decide +kernel
theorem dX0_draw_23 : decode cX0_draw 23 = .ok (.istore 7, 2) := by decide +kernel
theorem dX0_draw_25 : decode cX0_draw 25 = .ok (.iconst 0, 1) := by decide +kernel
theorem dX0_draw_26 : decode cX0_draw 26 = .ok (.istore 8, 2) := by decide +kernel
theorem dX0_draw_28 : decode cX0_draw 28 = .ok (.iload 8, 2) := by decide +kernel
theorem dX0_draw_30 : decode cX0_draw 30 = .ok (.aload_n 0, 1) := by decide +kernel
theorem dX0_draw_31 : decode cX0_draw 31 = .ok (.getfield 54, 3) := by decide +kernel
theorem dX0_draw_34 : decode cX0_draw 34 = .ok (.if_icmp .ge 125, 3) := by decide +kernel
theorem dX0_draw_37 : decode cX0_draw 37 = .ok (.iconst 0, 1) := by decide +kernel
theorem dX0_draw_38 : decode cX0_draw 38 = .ok (.istore 9, 2) := by decide +kernel
theorem dX0_draw_40 : decode cX0_draw 40 = .ok (.lload 5, 2) := by decide +kernel
theorem dX0_draw_42 : decode cX0_draw 42 = .ok (.aload_n 0, 1) := by decide +kernel
theorem dX0_draw_43 : decode cX0_draw 43 = .ok (.iload 8, 2) := by decide +kernel
theorem dX0_draw_45 : decode cX0_draw 45 = .ok (.iload 7, 2) := by decide +kernel
theorem dX0_draw_47 : decode cX0_draw 47 = .ok (.iload 9, 2) := by decide +kernel
theorem dX0_draw_49 : decode cX0_draw 49 = .ok (.invokevirtual 114, 3) := by decide +kernel
theorem dX0_draw_52 : decode cX0_draw 52 = .ok (.lmul, 1) := by decide +kernel
theorem dX0_draw_53 : decode cX0_draw 53 = .ok (.aload_n 0, 1) := by decide +kernel
theorem dX0_draw_54 : decode cX0_draw 54 = .ok (.getfield 23, 3) := by decide +kernel
theorem dX0_draw_57 : decode cX0_draw 57 = .ok (.iload 8, 2) := by decide +kernel
theorem dX0_draw_59 : decode cX0_draw 59 = .ok (.iload 9, 2) := by decide +kernel
theorem dX0_draw_61 : decode cX0_draw 61 = .ok (.invokestatic 64, 3) := by decide +kernel
theorem dX0_draw_64 : decode cX0_draw 64 = .ok (.laload, 1) := by decide +kernel
theorem dX0_draw_65 : decode cX0_draw 65 = .ok (.lmul, 1) := by decide +kernel
theorem dX0_draw_66 : decode cX0_draw 66 = .ok (.lstore 10, 2) := by decide +kernel
theorem dX0_draw_68 : decode cX0_draw 68 = .ok (.iload 9, 2) := by decide +kernel
theorem dX0_draw_70 : decode cX0_draw 70 = .ok (.aload_n 0, 1) := by decide +kernel
theorem dX0_draw_71 : decode cX0_draw 71 = .ok (.getfield 61, 3) := by decide +kernel
theorem dX0_draw_74 : decode cX0_draw 74 = .ok (.iconst 1, 1) := by decide +kernel
theorem dX0_draw_75 : decode cX0_draw 75 = .ok (.isub, 1) := by decide +kernel
theorem dX0_draw_76 : decode cX0_draw 76 = .ok (.if_icmp .ge 49, 3) := by decide +kernel
theorem dX0_draw_79 : decode cX0_draw 79 = .ok (.lload_n 3, 1) := by decide +kernel
theorem dX0_draw_80 : decode cX0_draw 80 = .ok (.lload 10, 2) := by decide +kernel
theorem dX0_draw_82 : decode cX0_draw 82 = .ok (.lcmp, 1) := by decide +kernel
theorem dX0_draw_83 : decode cX0_draw 83 = .ok (.ifCond .lt 42, 3) := by decide +kernel
theorem dX0_draw_86 : decode cX0_draw 86 = .ok (.lload_n 3, 1) := by decide +kernel
theorem dX0_draw_87 : decode cX0_draw 87 = .ok (.lload 10, 2) := by decide +kernel
theorem dX0_draw_89 : decode cX0_draw 89 = .ok (.lsub, 1) := by decide +kernel
theorem dX0_draw_90 : decode cX0_draw 90 = .ok (.lstore_n 3, 1) := by decide +kernel
theorem dX0_draw_91 : decode cX0_draw 91 = .ok (.iinc 9 1, 3) := by decide +kernel
theorem dX0_draw_94 : decode cX0_draw 94 = .ok (.lload 5, 2) := by decide +kernel
theorem dX0_draw_96 : decode cX0_draw 96 = .ok (.aload_n 0, 1) := by decide +kernel
theorem dX0_draw_97 : decode cX0_draw 97 = .ok (.iload 8, 2) := by decide +kernel
theorem dX0_draw_99 : decode cX0_draw 99 = .ok (.iload 7, 2) := by decide +kernel
theorem dX0_draw_101 : decode cX0_draw 101 = .ok (.iload 9, 2) := by decide +kernel
theorem dX0_draw_103 : decode cX0_draw 103 = .ok (.invokevirtual 114, 3) := by decide +kernel
theorem dX0_draw_106 : decode cX0_draw 106 = .ok (.lmul, 1) := by decide +kernel
theorem dX0_draw_107 : decode cX0_draw 107 = .ok (.aload_n 0, 1) := by decide +kernel
theorem dX0_draw_108 : decode cX0_draw 108 = .ok (.getfield 23, 3) := by decide +kernel
theorem dX0_draw_111 : decode cX0_draw 111 = .ok (.iload 8, 2) := by decide +kernel
theorem dX0_draw_113 : decode cX0_draw 113 = .ok (.iload 9, 2) := by decide +kernel
theorem dX0_draw_115 : decode cX0_draw 115 = .ok (.invokestatic 64, 3) := by decide +kernel
theorem dX0_draw_118 : decode cX0_draw 118 = .ok (.laload, 1) := by decide +kernel
theorem dX0_draw_119 : decode cX0_draw 119 = .ok (.lmul, 1) := by decide +kernel
theorem dX0_draw_120 : decode cX0_draw 120 = .ok (.lstore 10, 2) := by decide +kernel
theorem dX0_draw_122 : decode cX0_draw 122 = .ok (.goto (-54), 3) := by decide +kernel
theorem dX0_draw_125 : decode cX0_draw 125 = .ok (.lload 5, 2) := by decide +kernel
theorem dX0_draw_127 : decode cX0_draw 127 = .ok (.aload_n 0, 1) := by decide +kernel
theorem dX0_draw_128 : decode cX0_draw 128 = .ok (.iload 8, 2) := by decide +kernel
theorem dX0_draw_130 : decode cX0_draw 130 = .ok (.iload 7, 2) := by decide +kernel
theorem dX0_draw_132 : decode cX0_draw 132 = .ok (.iload 9, 2) := by decide +kernel
theorem dX0_draw_134 : decode cX0_draw 134 = .ok (.invokevirtual 114, 3) := by decide +kernel
theorem dX0_draw_137 : decode cX0_draw 137 = .ok (.lmul, 1) := by decide +kernel
theorem dX0_draw_138 : decode cX0_draw 138 = .ok (.lstore 5, 2) := by decide +kernel
theorem dX0_draw_140 : decode cX0_draw 140 = .ok (.aload_n 0, 1) := by decide +kernel
theorem dX0_draw_141 : decode cX0_draw 141 = .ok (.getfield 32, 3) := by decide +kernel
theorem dX0_draw_144 : decode cX0_draw 144 = .ok (.iload 8, 2) := by decide +kernel
theorem dX0_draw_146 : decode cX0_draw 146 = .ok (.iload 9, 2) := by decide +kernel
theorem dX0_draw_148 : decode cX0_draw 148 = .ok (.iastore, 1) := by decide +kernel
theorem dX0_draw_149 : decode cX0_draw 149 = .ok (.iload 9, 2) := by decide +kernel
theorem dX0_draw_151 : decode cX0_draw 151 = .ok (.istore 7, 2) := by decide +kernel
theorem dX0_draw_153 : decode cX0_draw 153 = .ok (.iinc 8 1, 3) := by decide +kernel
theorem dX0_draw_156 : decode cX0_draw 156 = .ok (.goto (-128), 3) := by decide +kernel
theorem dX0_draw_159 : decode cX0_draw 159 = .ok (.aload_n 0, 1) := by decide +kernel
theorem dX0_draw_160 : decode cX0_draw 160 = .ok (.aload_n 0, 1) := by decide +kernel
theorem dX0_draw_161 : decode cX0_draw 161 = .ok (.getfield 54, 3) := by decide +kernel
theorem dX0_draw_164 : decode cX0_draw 164 = .ok (.putfield 117, 3) := by decide +kernel
theorem dX0_draw_167 : decode cX0_draw 167 = .ok (.iconst 1, 1) := by decide +kernel
theorem dX0_draw_168 : decode cX0_draw 168 = .ok (.ireturn, 1) := by decide +kernel
theorem dX0_drawn_0 : decode cX0_drawn 0 = .ok (.iload_n 1, 1) := by decide +kernel
theorem dX0_drawn_1 : decode cX0_drawn 1 = .ok (.ifCond .lt 20, 3) := by decide +kernel
theorem dX0_drawn_4 : decode cX0_drawn 4 = .ok (.iload_n 1, 1) := by decide +kernel
theorem dX0_drawn_5 : decode cX0_drawn 5 = .ok (.aload_n 0, 1) := by decide +kernel
theorem dX0_drawn_6 : decode cX0_drawn 6 = .ok (.getfield 117, 3) := by decide +kernel
theorem dX0_drawn_9 : decode cX0_drawn 9 = .ok (.if_icmp .ge 12, 3) := by decide +kernel
theorem dX0_drawn_12 : decode cX0_drawn 12 = .ok (.aload_n 0, 1) := by decide +kernel
theorem dX0_drawn_13 : decode cX0_drawn 13 = .ok (.getfield 32, 3) := by decide +kernel
theorem dX0_drawn_16 : decode cX0_drawn 16 = .ok (.iload_n 1, 1) := by decide +kernel
theorem dX0_drawn_17 : decode cX0_drawn 17 = .ok (.iaload, 1) := by decide +kernel
theorem dX0_drawn_18 : decode cX0_drawn 18 = .ok (.goto 4, 3) := by decide +kernel
theorem dX0_drawn_21 : decode cX0_drawn 21 = .ok (.iconst (-1), 1) := by decide +kernel
theorem dX0_drawn_22 : decode cX0_drawn 22 = .ok (.ireturn, 1) := by decide +kernel
theorem dX0_startAnew_0 : decode cX0_startAnew 0 = .ok (.aload_n 0, 1) := by decide +kernel
theorem dX0_startAnew_1 : decode cX0_startAnew 1 = .ok (.iload_n 1, 1) := by decide +kernel
theorem dX0_startAnew_2 : decode cX0_startAnew 2 = .ok (.putfield 61, 3) := by decide +kernel
theorem dX0_startAnew_5 : decode cX0_startAnew 5 = .ok (.aload_n 0, 1) := by decide +kernel
theorem dX0_startAnew_6 : decode cX0_startAnew 6 = .ok (.iload_n 2, 1) := by decide +kernel
theorem dX0_startAnew_7 : decode cX0_startAnew 7 = .ok (.putfield 50, 3) := by decide +kernel
theorem dX0_startAnew_10 : decode cX0_startAnew 10 = .ok (.aload_n 0, 1) := by decide +kernel
theorem dX0_startAnew_11 : decode cX0_startAnew 11 = .ok (.iconst 0, 1) := by decide +kernel
theorem dX0_startAnew_12 : decode cX0_startAnew 12 = .ok (.putfield 54, 3) := by decide +kernel
theorem dX0_startAnew_15 : decode cX0_startAnew 15 = .ok (.aload_n 0, 1) := by decide +kernel
theorem dX0_startAnew_16 : decode cX0_startAnew 16 = .ok (.iconst 0, 1) := by decide +kernel
theorem dX0_startAnew_17 : decode cX0_startAnew 17 = .ok (.putfield 117, 3) := by decide +kernel
theorem dX0_startAnew_20 : decode cX0_startAnew 20 = .ok (.aload_n 0, 1) := by decide +kernel
theorem dX0_startAnew_21 : decode cX0_startAnew 21 = .ok (.getfield 9, 3) := by decide +kernel
theorem dX0_startAnew_24 : decode cX0_startAnew 24 = .ok (.iconst 1, 1) := by decide +kernel
theorem dX0_startAnew_25 : decode cX0_startAnew 25 = .ok (.invokestatic 120, 3) := by decide +kernel
theorem dX0_startAnew_28 : decode cX0_startAnew 28 = .ok (.aload_n 0, 1) := by decide +kernel
theorem dX0_startAnew_29 : decode cX0_startAnew 29 = .ok (.invokevirtual 47, 3) := by decide +kernel
theorem dX0_startAnew_32 : decode cX0_startAnew 32 = .ok (.return_, 1) := by decide +kernel
theorem dX0_rowsOf_0 : decode cX0_rowsOf 0 = .ok (.iload_n 1, 1) := by decide +kernel
theorem dX0_rowsOf_1 : decode cX0_rowsOf 1 = .ok (.tableswitch 34 0 2 #[27, 29, 29], 27) := by decide +kernel
theorem dX0_rowsOf_28 : decode cX0_rowsOf 28 = .ok (.iconst 1, 1) := by decide +kernel
theorem dX0_rowsOf_29 : decode cX0_rowsOf 29 = .ok (.ireturn, 1) := by decide +kernel
theorem dX0_rowsOf_30 : decode cX0_rowsOf 30 = .ok (.aload_n 0, 1) := by decide +kernel
theorem dX0_rowsOf_31 : decode cX0_rowsOf 31 = .ok (.getfield 61, 3) := by decide +kernel
theorem dX0_rowsOf_34 : decode cX0_rowsOf 34 = .ok (.ireturn, 1) := by decide +kernel
theorem dX0_rowsOf_35 : decode cX0_rowsOf 35 = .ok (.iconst 0, 1) := by decide +kernel
theorem dX0_rowsOf_36 : decode cX0_rowsOf 36 = .ok (.ireturn, 1) := by decide +kernel
theorem dX0_columnsOf_0 : decode cX0_columnsOf 0 = .ok (.iload_n 1, 1) := by decide +kernel
theorem dX0_columnsOf_1 : decode cX0_columnsOf 1 = .ok (.iconst 2, 1) := by decide +kernel
theorem dX0_columnsOf_2 : decode cX0_columnsOf 2 = .ok (.if_icmp .ne 10, 3) := by decide +kernel
theorem dX0_columnsOf_5 : decode cX0_columnsOf 5 = .ok (.aload_n 0, 1) := by decide +kernel
theorem dX0_columnsOf_6 : decode cX0_columnsOf 6 = .ok (.getfield 50, 3) := by decide +kernel
theorem dX0_columnsOf_9 : decode cX0_columnsOf 9 = .ok (.goto 7, 3) := by decide +kernel
theorem dX0_columnsOf_12 : decode cX0_columnsOf 12 = .ok (.aload_n 0, 1) := by decide +kernel
theorem dX0_columnsOf_13 : decode cX0_columnsOf 13 = .ok (.getfield 61, 3) := by decide +kernel
theorem dX0_columnsOf_16 : decode cX0_columnsOf 16 = .ok (.ireturn, 1) := by decide +kernel
theorem dX0_hasWeight_0 : decode cX0_hasWeight 0 = .ok (.iload_n 2, 1) := by decide +kernel
theorem dX0_hasWeight_1 : decode cX0_hasWeight 1 = .ok (.ifCond .lt 29, 3) := by decide +kernel
theorem dX0_hasWeight_4 : decode cX0_hasWeight 4 = .ok (.iload_n 2, 1) := by decide +kernel
theorem dX0_hasWeight_5 : decode cX0_hasWeight 5 = .ok (.aload_n 0, 1) := by decide +kernel
theorem dX0_hasWeight_6 : decode cX0_hasWeight 6 = .ok (.iload_n 1, 1) := by decide +kernel
theorem dX0_hasWeight_7 : decode cX0_hasWeight 7 = .ok (.invokevirtual 101, 3) := by decide +kernel
theorem dX0_hasWeight_10 : decode cX0_hasWeight 10 = .ok (.if_icmp .ge 20, 3) := by decide +kernel
theorem dX0_hasWeight_13 : decode cX0_hasWeight 13 = .ok (.iload_n 3, 1) := by decide +kernel
theorem dX0_hasWeight_14 : decode cX0_hasWeight 14 = .ok (.ifCond .lt 16, 3) := by decide +kernel
theorem dX0_hasWeight_17 : decode cX0_hasWeight 17 = .ok (.iload_n 3, 1) := by decide +kernel
theorem dX0_hasWeight_18 : decode cX0_hasWeight 18 = .ok (.aload_n 0, 1) := by decide +kernel
theorem dX0_hasWeight_19 : decode cX0_hasWeight 19 = .ok (.iload_n 1, 1) := by decide +kernel
theorem dX0_hasWeight_20 : decode cX0_hasWeight 20 = .ok (.invokevirtual 126, 3) := by decide +kernel
theorem dX0_hasWeight_23 : decode cX0_hasWeight 23 = .ok (.if_icmp .ge 7, 3) := by decide +kernel
theorem dX0_hasWeight_26 : decode cX0_hasWeight 26 = .ok (.iconst 1, 1) := by decide +kernel
theorem dX0_hasWeight_27 : decode cX0_hasWeight 27 = .ok (.goto 4, 3) := by decide +kernel
theorem dX0_hasWeight_30 : decode cX0_hasWeight 30 = .ok (.iconst 0, 1) := by decide +kernel
theorem dX0_hasWeight_31 : decode cX0_hasWeight 31 = .ok (.ireturn, 1) := by decide +kernel
theorem dX0_hasPlace_0 : decode cX0_hasPlace 0 = .ok (.iload_n 1, 1) := by decide +kernel
theorem dX0_hasPlace_1 : decode cX0_hasPlace 1 = .ok (.ifCond .lt 15, 3) := by decide +kernel
theorem dX0_hasPlace_4 : decode cX0_hasPlace 4 = .ok (.iload_n 1, 1) := by decide +kernel
theorem dX0_hasPlace_5 : decode cX0_hasPlace 5 = .ok (.aload_n 0, 1) := by decide +kernel
theorem dX0_hasPlace_6 : decode cX0_hasPlace 6 = .ok (.getfield 54, 3) := by decide +kernel
theorem dX0_hasPlace_9 : decode cX0_hasPlace 9 = .ok (.if_icmp .ge 7, 3) := by decide +kernel
theorem dX0_hasPlace_12 : decode cX0_hasPlace 12 = .ok (.iconst 1, 1) := by decide +kernel
theorem dX0_hasPlace_13 : decode cX0_hasPlace 13 = .ok (.goto 4, 3) := by decide +kernel
theorem dX0_hasPlace_16 : decode cX0_hasPlace 16 = .ok (.iconst 0, 1) := by decide +kernel
theorem dX0_hasPlace_17 : decode cX0_hasPlace 17 = .ok (.ireturn, 1) := by decide +kernel
theorem dX0_hasState_0 : decode cX0_hasState 0 = .ok (.iload_n 1, 1) := by decide +kernel
theorem dX0_hasState_1 : decode cX0_hasState 1 = .ok (.ifCond .lt 15, 3) := by decide +kernel
theorem dX0_hasState_4 : decode cX0_hasState 4 = .ok (.iload_n 1, 1) := by decide +kernel
theorem dX0_hasState_5 : decode cX0_hasState 5 = .ok (.aload_n 0, 1) := by decide +kernel
theorem dX0_hasState_6 : decode cX0_hasState 6 = .ok (.getfield 61, 3) := by decide +kernel
theorem dX0_hasState_9 : decode cX0_hasState 9 = .ok (.if_icmp .ge 7, 3) := by decide +kernel
theorem dX0_hasState_12 : decode cX0_hasState 12 = .ok (.iconst 1, 1) := by decide +kernel
theorem dX0_hasState_13 : decode cX0_hasState 13 = .ok (.goto 4, 3) := by decide +kernel
theorem dX0_hasState_16 : decode cX0_hasState 16 = .ok (.iconst 0, 1) := by decide +kernel
theorem dX0_hasState_17 : decode cX0_hasState 17 = .ok (.ireturn, 1) := by decide +kernel
theorem dX0_hasRank_0 : decode cX0_hasRank 0 = .ok (.iload_n 1, 1) := by decide +kernel
theorem dX0_hasRank_1 : decode cX0_hasRank 1 = .ok (.ifCond .lt 21, 3) := by decide +kernel
theorem dX0_hasRank_4 : decode cX0_hasRank 4 = .ok (.iload_n 1, 1) := by decide +kernel
theorem dX0_hasRank_5 : decode cX0_hasRank 5 = .ok (.bipush 12, 2) := by decide +kernel
theorem dX0_hasRank_7 : decode cX0_hasRank 7 = .ok (.if_icmp .ge 15, 3) := by decide +kernel
theorem dX0_hasRank_10 : decode cX0_hasRank 10 = .ok (.iload_n 1, 1) := by decide +kernel
theorem dX0_hasRank_11 : decode cX0_hasRank 11 = .ok (.aload_n 0, 1) := by decide +kernel
theorem dX0_hasRank_12 : decode cX0_hasRank 12 = .ok (.getfield 71, 3) := by decide +kernel
theorem dX0_hasRank_15 : decode cX0_hasRank 15 = .ok (.if_icmp .ge 7, 3) := by decide +kernel
theorem dX0_hasRank_18 : decode cX0_hasRank 18 = .ok (.iconst 1, 1) := by decide +kernel
theorem dX0_hasRank_19 : decode cX0_hasRank 19 = .ok (.goto 4, 3) := by decide +kernel
theorem dX0_hasRank_22 : decode cX0_hasRank 22 = .ok (.iconst 0, 1) := by decide +kernel
theorem dX0_hasRank_23 : decode cX0_hasRank 23 = .ok (.ireturn, 1) := by decide +kernel
theorem dX0_slot_0 : decode cX0_slot 0 = .ok (.iload_n 0, 1) := by decide +kernel
theorem dX0_slot_1 : decode cX0_slot 1 = .ok (.iconst 3, 1) := by decide +kernel
theorem dX0_slot_2 : decode cX0_slot 2 = .ok (.imul, 1) := by decide +kernel
theorem dX0_slot_3 : decode cX0_slot 3 = .ok (.iload_n 1, 1) := by decide +kernel
theorem dX0_slot_4 : decode cX0_slot 4 = .ok (.iadd, 1) := by decide +kernel
theorem dX0_slot_5 : decode cX0_slot 5 = .ok (.iconst 4, 1) := by decide +kernel
theorem dX0_slot_6 : decode cX0_slot 6 = .ok (.imul, 1) := by decide +kernel
theorem dX0_slot_7 : decode cX0_slot 7 = .ok (.iload_n 2, 1) := by decide +kernel
theorem dX0_slot_8 : decode cX0_slot 8 = .ok (.iadd, 1) := by decide +kernel
theorem dX0_slot_9 : decode cX0_slot 9 = .ok (.ireturn, 1) := by decide +kernel
theorem dX0_cell_0 : decode cX0_cell 0 = .ok (.iload_n 0, 1) := by decide +kernel
theorem dX0_cell_1 : decode cX0_cell 1 = .ok (.iconst 3, 1) := by decide +kernel
theorem dX0_cell_2 : decode cX0_cell 2 = .ok (.imul, 1) := by decide +kernel
theorem dX0_cell_3 : decode cX0_cell 3 = .ok (.iload_n 1, 1) := by decide +kernel
theorem dX0_cell_4 : decode cX0_cell 4 = .ok (.iadd, 1) := by decide +kernel
theorem dX0_cell_5 : decode cX0_cell 5 = .ok (.ireturn, 1) := by decide +kernel
theorem dX0_entry_0 : decode cX0_entry 0 = .ok (.iload_n 1, 1) := by decide +kernel
theorem dX0_entry_1 : decode cX0_entry 1 = .ok (.ifCond .ne 17, 3) := by decide +kernel
theorem dX0_entry_4 : decode cX0_entry 4 = .ok (.aload_n 0, 1) := by decide +kernel
theorem dX0_entry_5 : decode cX0_entry 5 = .ok (.getfield 9, 3) := by decide +kernel
theorem dX0_entry_8 : decode cX0_entry 8 = .ok (.iconst 0, 1) := by decide +kernel
theorem dX0_entry_9 : decode cX0_entry 9 = .ok (.iconst 0, 1) := by decide +kernel
theorem dX0_entry_10 : decode cX0_entry 10 = .ok (.iload_n 3, 1) := by decide +kernel
theorem dX0_entry_11 : decode cX0_entry 11 = .ok (.invokestatic 43, 3) := by decide +kernel
theorem dX0_entry_14 : decode cX0_entry 14 = .ok (.iaload, 1) := by decide +kernel
theorem dX0_entry_15 : decode cX0_entry 15 = .ok (.goto 14, 3) := by decide +kernel
theorem dX0_entry_18 : decode cX0_entry 18 = .ok (.aload_n 0, 1) := by decide +kernel
theorem dX0_entry_19 : decode cX0_entry 19 = .ok (.getfield 9, 3) := by decide +kernel
theorem dX0_entry_22 : decode cX0_entry 22 = .ok (.iconst 1, 1) := by decide +kernel
theorem dX0_entry_23 : decode cX0_entry 23 = .ok (.iload_n 2, 1) := by decide +kernel
theorem dX0_entry_24 : decode cX0_entry 24 = .ok (.iload_n 3, 1) := by decide +kernel
theorem dX0_entry_25 : decode cX0_entry 25 = .ok (.invokestatic 43, 3) := by decide +kernel
theorem dX0_entry_28 : decode cX0_entry 28 = .ok (.iaload, 1) := by decide +kernel
theorem dX0_entry_29 : decode cX0_entry 29 = .ok (.istore 4, 2) := by decide +kernel
theorem dX0_entry_31 : decode cX0_entry 31 = .ok (.iload 4, 2) := by decide +kernel
theorem dX0_entry_33 : decode cX0_entry 33 = .ok (.i2l, 1) := by decide +kernel
theorem dX0_entry_34 : decode cX0_entry 34 = .ok (.aload_n 0, 1) := by decide +kernel
theorem dX0_entry_35 : decode cX0_entry 35 = .ok (.getfield 9, 3) := by decide +kernel
theorem dX0_entry_38 : decode cX0_entry 38 = .ok (.iconst 2, 1) := by decide +kernel
theorem dX0_entry_39 : decode cX0_entry 39 = .ok (.iload_n 3, 1) := by decide +kernel
theorem dX0_entry_40 : decode cX0_entry 40 = .ok (.aload_n 0, 1) := by decide +kernel
theorem dX0_entry_41 : decode cX0_entry 41 = .ok (.getfield 16, 3) := by decide +kernel
theorem dX0_entry_44 : decode cX0_entry 44 = .ok (.iload_n 1, 1) := by decide +kernel
theorem dX0_entry_45 : decode cX0_entry 45 = .ok (.iaload, 1) := by decide +kernel
theorem dX0_entry_46 : decode cX0_entry 46 = .ok (.invokestatic 43, 3) := by decide +kernel
theorem dX0_entry_49 : decode cX0_entry 49 = .ok (.iaload, 1) := by decide +kernel
theorem dX0_entry_50 : decode cX0_entry 50 = .ok (.i2l, 1) := by decide +kernel
theorem dX0_entry_51 : decode cX0_entry 51 = .ok (.lmul, 1) := by decide +kernel
theorem dX0_entry_52 : decode cX0_entry 52 = .ok (.lreturn, 1) := by decide +kernel
theorem dX0_reckon_0 : decode cX0_reckon 0 = .ok (.aload_n 0, 1) := by decide +kernel
theorem dX0_reckon_1 : decode cX0_reckon 1 = .ok (.invokevirtual 129, 3) := by decide +kernel
theorem dX0_reckon_4 : decode cX0_reckon 4 = .ok (.aload_n 0, 1) := by decide +kernel
theorem dX0_reckon_5 : decode cX0_reckon 5 = .ok (.invokevirtual 132, 3) := by decide +kernel
theorem dX0_reckon_8 : decode cX0_reckon 8 = .ok (.aload_n 0, 1) := by decide +kernel
theorem dX0_reckon_9 : decode cX0_reckon 9 = .ok (.iconst 0, 1) := by decide +kernel
theorem dX0_reckon_10 : decode cX0_reckon 10 = .ok (.putfield 71, 3) := by decide +kernel
theorem dX0_reckon_13 : decode cX0_reckon 13 = .ok (.aload_n 0, 1) := by decide +kernel
theorem dX0_reckon_14 : decode cX0_reckon 14 = .ok (.iconst 0, 1) := by decide +kernel
theorem dX0_reckon_15 : decode cX0_reckon 15 = .ok (.iconst 0, 1) := by decide +kernel
theorem dX0_reckon_16 : decode cX0_reckon 16 = .ok (.lconst 1, 1) := by decide +kernel
theorem dX0_reckon_17 : decode cX0_reckon 17 = .ok (.invokevirtual 135, 3) := by decide +kernel
theorem dX0_reckon_20 : decode cX0_reckon 20 = .ok (.return_, 1) := by decide +kernel
theorem dX0_sumBefore_0 : decode cX0_sumBefore 0 = .ok (.iconst 0, 1) := by decide +kernel
theorem dX0_sumBefore_1 : decode cX0_sumBefore 1 = .ok (.istore_n 1, 1) := by decide +kernel
theorem dX0_sumBefore_2 : decode cX0_sumBefore 2 = .ok (.iload_n 1, 1) := by decide +kernel
theorem dX0_sumBefore_3 : decode cX0_sumBefore 3 = .ok (.aload_n 0, 1) := by decide +kernel
theorem dX0_sumBefore_4 : decode cX0_sumBefore 4 = .ok (.getfield 54, 3) := by decide +kernel
theorem dX0_sumBefore_7 : decode cX0_sumBefore 7 = .ok (.if_icmp .ge 55, 3) := by decide +kernel
theorem dX0_sumBefore_10 : decode cX0_sumBefore 10 = .ok (.iconst 0, 1) := by decide +kernel
theorem dX0_sumBefore_11 : decode cX0_sumBefore 11 = .ok (.istore_n 2, 1) := by decide +kernel
theorem dX0_sumBefore_12 : decode cX0_sumBefore 12 = .ok (.iload_n 2, 1) := by decide +kernel
theorem dX0_sumBefore_13 : decode cX0_sumBefore 13 = .ok (.aload_n 0, 1) := by decide +kernel
theorem dX0_sumBefore_14 : decode cX0_sumBefore 14 = .ok (.getfield 61, 3) := by decide +kernel
theorem dX0_sumBefore_17 : decode cX0_sumBefore 17 = .ok (.if_icmp .ge 39, 3) := by decide +kernel
theorem dX0_sumBefore_20 : decode cX0_sumBefore 20 = .ok (.aload_n 0, 1) := by decide +kernel
theorem dX0_sumBefore_21 : decode cX0_sumBefore 21 = .ok (.getfield 19, 3) := by decide +kernel
theorem dX0_sumBefore_24 : decode cX0_sumBefore 24 = .ok (.iload_n 1, 1) := by decide +kernel
theorem dX0_sumBefore_25 : decode cX0_sumBefore 25 = .ok (.iload_n 2, 1) := by decide +kernel
theorem dX0_sumBefore_26 : decode cX0_sumBefore 26 = .ok (.invokestatic 64, 3) := by decide +kernel
theorem dX0_sumBefore_29 : decode cX0_sumBefore 29 = .ok (.iload_n 1, 1) := by decide +kernel
theorem dX0_sumBefore_30 : decode cX0_sumBefore 30 = .ok (.ifCond .ne 13, 3) := by decide +kernel
theorem dX0_sumBefore_33 : decode cX0_sumBefore 33 = .ok (.aload_n 0, 1) := by decide +kernel
theorem dX0_sumBefore_34 : decode cX0_sumBefore 34 = .ok (.iconst 0, 1) := by decide +kernel
theorem dX0_sumBefore_35 : decode cX0_sumBefore 35 = .ok (.iconst 0, 1) := by decide +kernel
theorem dX0_sumBefore_36 : decode cX0_sumBefore 36 = .ok (.iload_n 2, 1) := by decide +kernel
theorem dX0_sumBefore_37 : decode cX0_sumBefore 37 = .ok (.invokevirtual 114, 3) := by decide +kernel
theorem dX0_sumBefore_40 : decode cX0_sumBefore 40 = .ok (.goto 9, 3) := by decide +kernel
theorem dX0_sumBefore_43 : decode cX0_sumBefore 43 = .ok (.aload_n 0, 1) := by decide +kernel
theorem dX0_sumBefore_44 : decode cX0_sumBefore 44 = .ok (.iload_n 1, 1) := by decide +kernel
theorem dX0_sumBefore_45 : decode cX0_sumBefore 45 = .ok (.iload_n 2, 1) := by decide +kernel
theorem dX0_sumBefore_46 : decode cX0_sumBefore 46 = .ok (.invokevirtual 139, 3) := by decide +kernel
theorem dX0_sumBefore_49 : decode cX0_sumBefore 49 = .ok (.lastore, 1) := by decide +kernel
theorem dX0_sumBefore_50 : decode cX0_sumBefore 50 = .ok (.iinc 2 1, 3) := by decide +kernel
theorem dX0_sumBefore_53 : decode cX0_sumBefore 53 = .ok (.goto (-41), 3) := by decide +kernel
theorem dX0_sumBefore_56 : decode cX0_sumBefore 56 = .ok (.iinc 1 1, 3) := by decide +kernel
theorem dX0_sumBefore_59 : decode cX0_sumBefore 59 = .ok (.goto (-57), 3) := by decide +kernel
theorem dX0_sumBefore_62 : decode cX0_sumBefore 62 = .ok (.return_, 1) := by decide +kernel
theorem dX0_sumInto_0 : decode cX0_sumInto 0 = .ok (.lconst 0, 1) := by decide +kernel
theorem dX0_sumInto_1 : decode cX0_sumInto 1 = .ok (.lstore_n 3, 1) := by decide +kernel
theorem dX0_sumInto_2 : decode cX0_sumInto 2 = .ok (.iconst 0, 1) := by decide +kernel
theorem dX0_sumInto_3 : decode cX0_sumInto 3 = .ok (.istore 5, 2) := by decide +kernel
theorem dX0_sumInto_5 : decode cX0_sumInto 5 = .ok (.iload 5, 2) := by decide +kernel
theorem dX0_sumInto_7 : decode cX0_sumInto 7 = .ok (.aload_n 0, 1) := by decide +kernel
theorem dX0_sumInto_8 : decode cX0_sumInto 8 = .ok (.getfield 61, 3) := by decide +kernel
theorem dX0_sumInto_11 : decode cX0_sumInto 11 = .ok (.if_icmp .ge 34, 3) := by decide +kernel
theorem dX0_sumInto_14 : decode cX0_sumInto 14 = .ok (.lload_n 3, 1) := by decide +kernel
theorem dX0_sumInto_15 : decode cX0_sumInto 15 = .ok (.aload_n 0, 1) := by decide +kernel
theorem dX0_sumInto_16 : decode cX0_sumInto 16 = .ok (.getfield 19, 3) := by decide +kernel
theorem dX0_sumInto_19 : decode cX0_sumInto 19 = .ok (.iload_n 1, 1) := by decide +kernel
theorem dX0_sumInto_20 : decode cX0_sumInto 20 = .ok (.iconst 1, 1) := by decide +kernel
theorem dX0_sumInto_21 : decode cX0_sumInto 21 = .ok (.isub, 1) := by decide +kernel
theorem dX0_sumInto_22 : decode cX0_sumInto 22 = .ok (.iload 5, 2) := by decide +kernel
theorem dX0_sumInto_24 : decode cX0_sumInto 24 = .ok (.invokestatic 64, 3) := by decide +kernel
theorem dX0_sumInto_27 : decode cX0_sumInto 27 = .ok (.laload, 1) := by decide +kernel
theorem dX0_sumInto_28 : decode cX0_sumInto 28 = .ok (.aload_n 0, 1) := by decide +kernel
theorem dX0_sumInto_29 : decode cX0_sumInto 29 = .ok (.iload_n 1, 1) := by decide +kernel
theorem dX0_sumInto_30 : decode cX0_sumInto 30 = .ok (.iload 5, 2) := by decide +kernel
theorem dX0_sumInto_32 : decode cX0_sumInto 32 = .ok (.iload_n 2, 1) := by decide +kernel
theorem dX0_sumInto_33 : decode cX0_sumInto 33 = .ok (.invokevirtual 114, 3) := by decide +kernel
theorem dX0_sumInto_36 : decode cX0_sumInto 36 = .ok (.lmul, 1) := by decide +kernel
theorem dX0_sumInto_37 : decode cX0_sumInto 37 = .ok (.ladd, 1) := by decide +kernel
theorem dX0_sumInto_38 : decode cX0_sumInto 38 = .ok (.lstore_n 3, 1) := by decide +kernel
theorem dX0_sumInto_39 : decode cX0_sumInto 39 = .ok (.iinc 5 1, 3) := by decide +kernel
theorem dX0_sumInto_42 : decode cX0_sumInto 42 = .ok (.goto (-37), 3) := by decide +kernel
theorem dX0_sumInto_45 : decode cX0_sumInto 45 = .ok (.lload_n 3, 1) := by decide +kernel
theorem dX0_sumInto_46 : decode cX0_sumInto 46 = .ok (.lreturn, 1) := by decide +kernel
theorem dX0_sumBehind_0 : decode cX0_sumBehind 0 = .ok (.aload_n 0, 1) := by decide +kernel
theorem dX0_sumBehind_1 : decode cX0_sumBehind 1 = .ok (.getfield 54, 3) := by decide +kernel
theorem dX0_sumBehind_4 : decode cX0_sumBehind 4 = .ok (.iconst 1, 1) := by decide +kernel
theorem dX0_sumBehind_5 : decode cX0_sumBehind 5 = .ok (.isub, 1) := by decide +kernel
theorem dX0_sumBehind_6 : decode cX0_sumBehind 6 = .ok (.istore_n 1, 1) := by decide +kernel
theorem dX0_sumBehind_7 : decode cX0_sumBehind 7 = .ok (.iload_n 1, 1) := by decide +kernel
theorem dX0_sumBehind_8 : decode cX0_sumBehind 8 = .ok (.ifCond .lt 55, 3) := by decide +kernel
theorem dX0_sumBehind_11 : decode cX0_sumBehind 11 = .ok (.iconst 0, 1) := by decide +kernel
theorem dX0_sumBehind_12 : decode cX0_sumBehind 12 = .ok (.istore_n 2, 1) := by decide +kernel
theorem dX0_sumBehind_13 : decode cX0_sumBehind 13 = .ok (.iload_n 2, 1) := by decide +kernel
theorem dX0_sumBehind_14 : decode cX0_sumBehind 14 = .ok (.aload_n 0, 1) := by decide +kernel
theorem dX0_sumBehind_15 : decode cX0_sumBehind 15 = .ok (.getfield 61, 3) := by decide +kernel
theorem dX0_sumBehind_18 : decode cX0_sumBehind 18 = .ok (.if_icmp .ge 39, 3) := by decide +kernel
theorem dX0_sumBehind_21 : decode cX0_sumBehind 21 = .ok (.aload_n 0, 1) := by decide +kernel
theorem dX0_sumBehind_22 : decode cX0_sumBehind 22 = .ok (.getfield 23, 3) := by decide +kernel
theorem dX0_sumBehind_25 : decode cX0_sumBehind 25 = .ok (.iload_n 1, 1) := by decide +kernel
theorem dX0_sumBehind_26 : decode cX0_sumBehind 26 = .ok (.iload_n 2, 1) := by decide +kernel
theorem dX0_sumBehind_27 : decode cX0_sumBehind 27 = .ok (.invokestatic 64, 3) := by decide +kernel
theorem dX0_sumBehind_30 : decode cX0_sumBehind 30 = .ok (.iload_n 1, 1) := by decide +kernel
theorem dX0_sumBehind_31 : decode cX0_sumBehind 31 = .ok (.aload_n 0, 1) := by decide +kernel
theorem dX0_sumBehind_32 : decode cX0_sumBehind 32 = .ok (.getfield 54, 3) := by decide +kernel
theorem dX0_sumBehind_35 : decode cX0_sumBehind 35 = .ok (.iconst 1, 1) := by decide +kernel
theorem dX0_sumBehind_36 : decode cX0_sumBehind 36 = .ok (.isub, 1) := by decide +kernel
theorem dX0_sumBehind_37 : decode cX0_sumBehind 37 = .ok (.if_icmp .ne 7, 3) := by decide +kernel
theorem dX0_sumBehind_40 : decode cX0_sumBehind 40 = .ok (.lconst 1, 1) := by decide +kernel
theorem dX0_sumBehind_41 : decode cX0_sumBehind 41 = .ok (.goto 9, 3) := by decide +kernel
theorem dX0_sumBehind_44 : decode cX0_sumBehind 44 = .ok (.aload_n 0, 1) := by decide +kernel
theorem dX0_sumBehind_45 : decode cX0_sumBehind 45 = .ok (.iload_n 1, 1) := by decide +kernel
theorem dX0_sumBehind_46 : decode cX0_sumBehind 46 = .ok (.iload_n 2, 1) := by decide +kernel
theorem dX0_sumBehind_47 : decode cX0_sumBehind 47 = .ok (.invokevirtual 142, 3) := by decide +kernel
theorem dX0_sumBehind_50 : decode cX0_sumBehind 50 = .ok (.lastore, 1) := by decide +kernel
theorem dX0_sumBehind_51 : decode cX0_sumBehind 51 = .ok (.iinc 2 1, 3) := by decide +kernel
theorem dX0_sumBehind_54 : decode cX0_sumBehind 54 = .ok (.goto (-41), 3) := by decide +kernel
theorem dX0_sumBehind_57 : decode cX0_sumBehind 57 = .ok (.iinc 1 (-1), 3) := by decide +kernel
theorem dX0_sumBehind_60 : decode cX0_sumBehind 60 = .ok (.goto (-53), 3) := by decide +kernel
theorem dX0_sumBehind_63 : decode cX0_sumBehind 63 = .ok (.return_, 1) := by decide +kernel
theorem dX0_sumOutOf_0 : decode cX0_sumOutOf 0 = .ok (.lconst 0, 1) := by decide +kernel
theorem dX0_sumOutOf_1 : decode cX0_sumOutOf 1 = .ok (.lstore_n 3, 1) := by decide +kernel
theorem dX0_sumOutOf_2 : decode cX0_sumOutOf 2 = .ok (.iconst 0, 1) := by decide +kernel
theorem dX0_sumOutOf_3 : decode cX0_sumOutOf 3 = .ok (.istore 5, 2) := by decide +kernel
theorem dX0_sumOutOf_5 : decode cX0_sumOutOf 5 = .ok (.iload 5, 2) := by decide +kernel
theorem dX0_sumOutOf_7 : decode cX0_sumOutOf 7 = .ok (.aload_n 0, 1) := by decide +kernel
theorem dX0_sumOutOf_8 : decode cX0_sumOutOf 8 = .ok (.getfield 61, 3) := by decide +kernel
theorem dX0_sumOutOf_11 : decode cX0_sumOutOf 11 = .ok (.if_icmp .ge 36, 3) := by decide +kernel
theorem dX0_sumOutOf_14 : decode cX0_sumOutOf 14 = .ok (.lload_n 3, 1) := by decide +kernel
theorem dX0_sumOutOf_15 : decode cX0_sumOutOf 15 = .ok (.aload_n 0, 1) := by decide +kernel
theorem dX0_sumOutOf_16 : decode cX0_sumOutOf 16 = .ok (.iload_n 1, 1) := by decide +kernel
theorem dX0_sumOutOf_17 : decode cX0_sumOutOf 17 = .ok (.iconst 1, 1) := by decide +kernel
theorem dX0_sumOutOf_18 : decode cX0_sumOutOf 18 = .ok (.iadd, 1) := by decide +kernel
theorem dX0_sumOutOf_19 : decode cX0_sumOutOf 19 = .ok (.iload_n 2, 1) := by decide +kernel
theorem dX0_sumOutOf_20 : decode cX0_sumOutOf 20 = .ok (.iload 5, 2) := by decide +kernel
theorem dX0_sumOutOf_22 : decode cX0_sumOutOf 22 = .ok (.invokevirtual 114, 3) := by decide +kernel
theorem dX0_sumOutOf_25 : decode cX0_sumOutOf 25 = .ok (.aload_n 0, 1) := by decide +kernel
theorem dX0_sumOutOf_26 : decode cX0_sumOutOf 26 = .ok (.getfield 23, 3) := by decide +kernel
theorem dX0_sumOutOf_29 : decode cX0_sumOutOf 29 = .ok (.iload_n 1, 1) := by decide +kernel
theorem dX0_sumOutOf_30 : decode cX0_sumOutOf 30 = .ok (.iconst 1, 1) := by decide +kernel
theorem dX0_sumOutOf_31 : decode cX0_sumOutOf 31 = .ok (.iadd, 1) := by decide +kernel
theorem dX0_sumOutOf_32 : decode cX0_sumOutOf 32 = .ok (.iload 5, 2) := by decide +kernel
theorem dX0_sumOutOf_34 : decode cX0_sumOutOf 34 = .ok (.invokestatic 64, 3) := by decide +kernel
theorem dX0_sumOutOf_37 : decode cX0_sumOutOf 37 = .ok (.laload, 1) := by decide +kernel
theorem dX0_sumOutOf_38 : decode cX0_sumOutOf 38 = .ok (.lmul, 1) := by decide +kernel
theorem dX0_sumOutOf_39 : decode cX0_sumOutOf 39 = .ok (.ladd, 1) := by decide +kernel
theorem dX0_sumOutOf_40 : decode cX0_sumOutOf 40 = .ok (.lstore_n 3, 1) := by decide +kernel
theorem dX0_sumOutOf_41 : decode cX0_sumOutOf 41 = .ok (.iinc 5 1, 3) := by decide +kernel
theorem dX0_sumOutOf_44 : decode cX0_sumOutOf 44 = .ok (.goto (-39), 3) := by decide +kernel
theorem dX0_sumOutOf_47 : decode cX0_sumOutOf 47 = .ok (.lload_n 3, 1) := by decide +kernel
theorem dX0_sumOutOf_48 : decode cX0_sumOutOf 48 = .ok (.lreturn, 1) := by decide +kernel
theorem dX0_rankFrom_0 : decode cX0_rankFrom 0 = .ok (.iload_n 1, 1) := by decide +kernel
theorem dX0_rankFrom_1 : decode cX0_rankFrom 1 = .ok (.aload_n 0, 1) := by decide +kernel
theorem dX0_rankFrom_2 : decode cX0_rankFrom 2 = .ok (.getfield 54, 3) := by decide +kernel
theorem dX0_rankFrom_5 : decode cX0_rankFrom 5 = .ok (.if_icmp .lt 10, 3) := by decide +kernel
theorem dX0_rankFrom_8 : decode cX0_rankFrom 8 = .ok (.aload_n 0, 1) := by decide +kernel
theorem dX0_rankFrom_9 : decode cX0_rankFrom 9 = .ok (.iload_n 2, 1) := by decide +kernel
theorem dX0_rankFrom_10 : decode cX0_rankFrom 10 = .ok (.lload_n 3, 1) := by decide +kernel
theorem dX0_rankFrom_11 : decode cX0_rankFrom 11 = .ok (.invokevirtual 145, 3) := by decide +kernel
theorem dX0_rankFrom_14 : decode cX0_rankFrom 14 = .ok (.return_, 1) := by decide +kernel
theorem dX0_rankFrom_15 : decode cX0_rankFrom 15 = .ok (.iconst 0, 1) := by decide +kernel
theorem dX0_rankFrom_16 : decode cX0_rankFrom 16 = .ok (.istore 5, 2) := by decide +kernel
theorem dX0_rankFrom_18 : decode cX0_rankFrom 18 = .ok (.iload 5, 2) := by decide +kernel
theorem dX0_rankFrom_20 : decode cX0_rankFrom 20 = .ok (.aload_n 0, 1) := by decide +kernel
theorem dX0_rankFrom_21 : decode cX0_rankFrom 21 = .ok (.getfield 61, 3) := by decide +kernel
theorem dX0_rankFrom_24 : decode cX0_rankFrom 24 = .ok (.if_icmp .ge 45, 3) := by decide +kernel
theorem dX0_rankFrom_27 : decode cX0_rankFrom 27 = .ok (.lload_n 3, 1) := by decide +kernel
theorem dX0_rankFrom_28 : decode cX0_rankFrom 28 = .ok (.aload_n 0, 1) := by decide +kernel
theorem dX0_rankFrom_29 : decode cX0_rankFrom 29 = .ok (.iload_n 1, 1) := by decide +kernel
theorem dX0_rankFrom_30 : decode cX0_rankFrom 30 = .ok (.iload_n 2, 1) := by decide +kernel
theorem dX0_rankFrom_31 : decode cX0_rankFrom 31 = .ok (.iconst 3, 1) := by decide +kernel
theorem dX0_rankFrom_32 : decode cX0_rankFrom 32 = .ok (.iand, 1) := by decide +kernel
theorem dX0_rankFrom_33 : decode cX0_rankFrom 33 = .ok (.iload 5, 2) := by decide +kernel
theorem dX0_rankFrom_35 : decode cX0_rankFrom 35 = .ok (.invokevirtual 114, 3) := by decide +kernel
theorem dX0_rankFrom_38 : decode cX0_rankFrom 38 = .ok (.lmul, 1) := by decide +kernel
theorem dX0_rankFrom_39 : decode cX0_rankFrom 39 = .ok (.lstore 6, 2) := by decide +kernel
theorem dX0_rankFrom_41 : decode cX0_rankFrom 41 = .ok (.lload 6, 2) := by decide +kernel
theorem dX0_rankFrom_43 : decode cX0_rankFrom 43 = .ok (.lconst 0, 1) := by decide +kernel
theorem dX0_rankFrom_44 : decode cX0_rankFrom 44 = .ok (.lcmp, 1) := by decide +kernel
theorem dX0_rankFrom_45 : decode cX0_rankFrom 45 = .ok (.ifCond .eq 18, 3) := by decide +kernel
theorem dX0_rankFrom_48 : decode cX0_rankFrom 48 = .ok (.aload_n 0, 1) := by decide +kernel
theorem dX0_rankFrom_49 : decode cX0_rankFrom 49 = .ok (.iload_n 1, 1) := by decide +kernel
theorem dX0_rankFrom_50 : decode cX0_rankFrom 50 = .ok (.iconst 1, 1) := by decide +kernel
theorem dX0_rankFrom_51 : decode cX0_rankFrom 51 = .ok (.iadd, 1) := by decide +kernel
theorem dX0_rankFrom_52 : decode cX0_rankFrom 52 = .ok (.iload_n 2, 1) := by decide +kernel
theorem dX0_rankFrom_53 : decode cX0_rankFrom 53 = .ok (.iconst 2, 1) := by decide +kernel
theorem dX0_rankFrom_54 : decode cX0_rankFrom 54 = .ok (.ishl, 1) := by decide +kernel
theorem dX0_rankFrom_55 : decode cX0_rankFrom 55 = .ok (.iload 5, 2) := by decide +kernel
theorem dX0_rankFrom_57 : decode cX0_rankFrom 57 = .ok (.ior, 1) := by decide +kernel
theorem dX0_rankFrom_58 : decode cX0_rankFrom 58 = .ok (.lload 6, 2) := by decide +kernel
theorem dX0_rankFrom_60 : decode cX0_rankFrom 60 = .ok (.invokevirtual 135, 3) := by decide +kernel
theorem dX0_rankFrom_63 : decode cX0_rankFrom 63 = .ok (.iinc 5 1, 3) := by decide +kernel
theorem dX0_rankFrom_66 : decode cX0_rankFrom 66 = .ok (.goto (-48), 3) := by decide +kernel
theorem dX0_rankFrom_69 : decode cX0_rankFrom 69 = .ok (.return_, 1) := by decide +kernel
theorem dX0_rankWay_0 : decode cX0_rankWay 0 = .ok (.aload_n 0, 1) := by decide +kernel
theorem dX0_rankWay_1 : decode cX0_rankWay 1 = .ok (.getfield 71, 3) := by decide +kernel
theorem dX0_rankWay_4 : decode cX0_rankWay 4 = .ok (.bipush 12, 2) := by decide +kernel
theorem dX0_rankWay_6 : decode cX0_rankWay 6 = .ok (.invokestatic 149, 3) := by decide +kernel
theorem dX0_rankWay_9 : decode cX0_rankWay 9 = .ok (.istore 4, 2) := by decide +kernel
theorem dX0_rankWay_11 : decode cX0_rankWay 11 = .ok (.iload 4, 2) := by decide +kernel
theorem dX0_rankWay_13 : decode cX0_rankWay 13 = .ok (.ifCond .le 64, 3) := by decide +kernel
theorem dX0_rankWay_16 : decode cX0_rankWay 16 = .ok (.aload_n 0, 1) := by decide +kernel
theorem dX0_rankWay_17 : decode cX0_rankWay 17 = .ok (.getfield 26, 3) := by decide +kernel
theorem dX0_rankWay_20 : decode cX0_rankWay 20 = .ok (.iload 4, 2) := by decide +kernel
theorem dX0_rankWay_22 : decode cX0_rankWay 22 = .ok (.iconst 1, 1) := by decide +kernel
theorem dX0_rankWay_23 : decode cX0_rankWay 23 = .ok (.isub, 1) := by decide +kernel
theorem dX0_rankWay_24 : decode cX0_rankWay 24 = .ok (.laload, 1) := by decide +kernel
theorem dX0_rankWay_25 : decode cX0_rankWay 25 = .ok (.lload_n 2, 1) := by decide +kernel
theorem dX0_rankWay_26 : decode cX0_rankWay 26 = .ok (.lcmp, 1) := by decide +kernel
theorem dX0_rankWay_27 : decode cX0_rankWay 27 = .ok (.ifCond .ge 50, 3) := by decide +kernel
theorem dX0_rankWay_30 : decode cX0_rankWay 30 = .ok (.iinc 4 (-1), 3) := by decide +kernel
theorem dX0_rankWay_33 : decode cX0_rankWay 33 = .ok (.iload 4, 2) := by decide +kernel
theorem dX0_rankWay_35 : decode cX0_rankWay 35 = .ok (.iconst 1, 1) := by decide +kernel
theorem dX0_rankWay_36 : decode cX0_rankWay 36 = .ok (.iadd, 1) := by decide +kernel
theorem dX0_rankWay_37 : decode cX0_rankWay 37 = .ok (.bipush 12, 2) := by decide +kernel
theorem dX0_rankWay_39 : decode cX0_rankWay 39 = .ok (.if_icmp .ge (-28), 3) := by decide +kernel
theorem dX0_rankWay_42 : decode cX0_rankWay 42 = .ok (.aload_n 0, 1) := by decide +kernel
theorem dX0_rankWay_43 : decode cX0_rankWay 43 = .ok (.getfield 26, 3) := by decide +kernel
theorem dX0_rankWay_46 : decode cX0_rankWay 46 = .ok (.iload 4, 2) := by decide +kernel
theorem dX0_rankWay_48 : decode cX0_rankWay 48 = .ok (.iconst 1, 1) := by decide +kernel
theorem dX0_rankWay_49 : decode cX0_rankWay 49 = .ok (.iadd, 1) := by decide +kernel
theorem dX0_rankWay_50 : decode cX0_rankWay 50 = .ok (.aload_n 0, 1) := by decide +kernel
theorem dX0_rankWay_51 : decode cX0_rankWay 51 = .ok (.getfield 26, 3) := by decide +kernel
theorem dX0_rankWay_54 : decode cX0_rankWay 54 = .ok (.iload 4, 2) := by decide +kernel
theorem dX0_rankWay_56 : decode cX0_rankWay 56 = .ok (.laload, 1) := by decide +kernel
theorem dX0_rankWay_57 : decode cX0_rankWay 57 = .ok (.lastore, 1) := by decide +kernel
theorem dX0_rankWay_58 : decode cX0_rankWay 58 = .ok (.aload_n 0, 1) := by decide +kernel
theorem dX0_rankWay_59 : decode cX0_rankWay 59 = .ok (.getfield 29, 3) := by decide +kernel
theorem dX0_rankWay_62 : decode cX0_rankWay 62 = .ok (.iload 4, 2) := by decide +kernel
theorem dX0_rankWay_64 : decode cX0_rankWay 64 = .ok (.iconst 1, 1) := by decide +kernel
theorem dX0_rankWay_65 : decode cX0_rankWay 65 = .ok (.iadd, 1) := by decide +kernel
theorem dX0_rankWay_66 : decode cX0_rankWay 66 = .ok (.aload_n 0, 1) := by decide +kernel
theorem dX0_rankWay_67 : decode cX0_rankWay 67 = .ok (.getfield 29, 3) := by decide +kernel
theorem dX0_rankWay_70 : decode cX0_rankWay 70 = .ok (.iload 4, 2) := by decide +kernel
theorem dX0_rankWay_72 : decode cX0_rankWay 72 = .ok (.iaload, 1) := by decide +kernel
theorem dX0_rankWay_73 : decode cX0_rankWay 73 = .ok (.iastore, 1) := by decide +kernel
theorem dX0_rankWay_74 : decode cX0_rankWay 74 = .ok (.goto (-63), 3) := by decide +kernel
theorem dX0_rankWay_77 : decode cX0_rankWay 77 = .ok (.iload 4, 2) := by decide +kernel
theorem dX0_rankWay_79 : decode cX0_rankWay 79 = .ok (.bipush 12, 2) := by decide +kernel
theorem dX0_rankWay_81 : decode cX0_rankWay 81 = .ok (.if_icmp .ge 19, 3) := by decide +kernel
theorem dX0_rankWay_84 : decode cX0_rankWay 84 = .ok (.aload_n 0, 1) := by decide +kernel
theorem dX0_rankWay_85 : decode cX0_rankWay 85 = .ok (.getfield 26, 3) := by decide +kernel
theorem dX0_rankWay_88 : decode cX0_rankWay 88 = .ok (.iload 4, 2) := by decide +kernel
theorem dX0_rankWay_90 : decode cX0_rankWay 90 = .ok (.lload_n 2, 1) := by decide +kernel
theorem dX0_rankWay_91 : decode cX0_rankWay 91 = .ok (.lastore, 1) := by decide +kernel
theorem dX0_rankWay_92 : decode cX0_rankWay 92 = .ok (.aload_n 0, 1) := by decide +kernel
theorem dX0_rankWay_93 : decode cX0_rankWay 93 = .ok (.getfield 29, 3) := by decide +kernel
theorem dX0_rankWay_96 : decode cX0_rankWay 96 = .ok (.iload 4, 2) := by decide +kernel
theorem dX0_rankWay_98 : decode cX0_rankWay 98 = .ok (.iload_n 1, 1) := by decide +kernel
theorem dX0_rankWay_99 : decode cX0_rankWay 99 = .ok (.iastore, 1) := by decide +kernel
theorem dX0_rankWay_100 : decode cX0_rankWay 100 = .ok (.aload_n 0, 1) := by decide +kernel
theorem dX0_rankWay_101 : decode cX0_rankWay 101 = .ok (.dup, 1) := by decide +kernel
theorem dX0_rankWay_102 : decode cX0_rankWay 102 = .ok (.getfield 71, 3) := by decide +kernel
theorem dX0_rankWay_105 : decode cX0_rankWay 105 = .ok (.iconst 1, 1) := by decide +kernel
theorem dX0_rankWay_106 : decode cX0_rankWay 106 = .ok (.iadd, 1) := by decide +kernel
theorem dX0_rankWay_107 : decode cX0_rankWay 107 = .ok (.putfield 71, 3) := by decide +kernel
theorem dX0_rankWay_110 : decode cX0_rankWay 110 = .ok (.return_, 1) := by decide +kernel
theorem dX0_unitsOf_0 : decode cX0_unitsOf 0 = .ok (.iload_n 1, 1) := by decide +kernel
theorem dX0_unitsOf_1 : decode cX0_unitsOf 1 = .ok (.lookupswitch 41 #[(0, 27), (1, 34)], 27) := by decide +kernel
theorem dX0_unitsOf_28 : decode cX0_unitsOf 28 = .ok (.aload_n 0, 1) := by decide +kernel
theorem dX0_unitsOf_29 : decode cX0_unitsOf 29 = .ok (.iload_n 2, 1) := by decide +kernel
theorem dX0_unitsOf_30 : decode cX0_unitsOf 30 = .ok (.iload_n 3, 1) := by decide +kernel
theorem dX0_unitsOf_31 : decode cX0_unitsOf 31 = .ok (.invokevirtual 154, 3) := by decide +kernel
theorem dX0_unitsOf_34 : decode cX0_unitsOf 34 = .ok (.lreturn, 1) := by decide +kernel
theorem dX0_unitsOf_35 : decode cX0_unitsOf 35 = .ok (.aload_n 0, 1) := by decide +kernel
theorem dX0_unitsOf_36 : decode cX0_unitsOf 36 = .ok (.iload_n 2, 1) := by decide +kernel
theorem dX0_unitsOf_37 : decode cX0_unitsOf 37 = .ok (.iload_n 3, 1) := by decide +kernel
theorem dX0_unitsOf_38 : decode cX0_unitsOf 38 = .ok (.invokevirtual 157, 3) := by decide +kernel
theorem dX0_unitsOf_41 : decode cX0_unitsOf 41 = .ok (.lreturn, 1) := by decide +kernel
theorem dX0_unitsOf_42 : decode cX0_unitsOf 42 = .ok (.aload_n 0, 1) := by decide +kernel
theorem dX0_unitsOf_43 : decode cX0_unitsOf 43 = .ok (.iload_n 2, 1) := by decide +kernel
theorem dX0_unitsOf_44 : decode cX0_unitsOf 44 = .ok (.iload_n 3, 1) := by decide +kernel
theorem dX0_unitsOf_45 : decode cX0_unitsOf 45 = .ok (.invokevirtual 160, 3) := by decide +kernel
theorem dX0_unitsOf_48 : decode cX0_unitsOf 48 = .ok (.lreturn, 1) := by decide +kernel
theorem dX0_unitsThrough_0 : decode cX0_unitsThrough 0 = .ok (.aload_n 0, 1) := by decide +kernel
theorem dX0_unitsThrough_1 : decode cX0_unitsThrough 1 = .ok (.iload_n 1, 1) := by decide +kernel
theorem dX0_unitsThrough_2 : decode cX0_unitsThrough 2 = .ok (.invokevirtual 57, 3) := by decide +kernel
theorem dX0_unitsThrough_5 : decode cX0_unitsThrough 5 = .ok (.ifCond .eq 27, 3) := by decide +kernel
theorem dX0_unitsThrough_8 : decode cX0_unitsThrough 8 = .ok (.aload_n 0, 1) := by decide +kernel
theorem dX0_unitsThrough_9 : decode cX0_unitsThrough 9 = .ok (.getfield 19, 3) := by decide +kernel
theorem dX0_unitsThrough_12 : decode cX0_unitsThrough 12 = .ok (.iload_n 1, 1) := by decide +kernel
theorem dX0_unitsThrough_13 : decode cX0_unitsThrough 13 = .ok (.iload_n 2, 1) := by decide +kernel
theorem dX0_unitsThrough_14 : decode cX0_unitsThrough 14 = .ok (.invokestatic 64, 3) := by decide +kernel
theorem dX0_unitsThrough_17 : decode cX0_unitsThrough 17 = .ok (.laload, 1) := by decide +kernel
theorem dX0_unitsThrough_18 : decode cX0_unitsThrough 18 = .ok (.aload_n 0, 1) := by decide +kernel
theorem dX0_unitsThrough_19 : decode cX0_unitsThrough 19 = .ok (.getfield 23, 3) := by decide +kernel
theorem dX0_unitsThrough_22 : decode cX0_unitsThrough 22 = .ok (.iload_n 1, 1) := by decide +kernel
theorem dX0_unitsThrough_23 : decode cX0_unitsThrough 23 = .ok (.iload_n 2, 1) := by decide +kernel
theorem dX0_unitsThrough_24 : decode cX0_unitsThrough 24 = .ok (.invokestatic 64, 3) := by decide +kernel
theorem dX0_unitsThrough_27 : decode cX0_unitsThrough 27 = .ok (.laload, 1) := by decide +kernel
theorem dX0_unitsThrough_28 : decode cX0_unitsThrough 28 = .ok (.lmul, 1) := by decide +kernel
theorem dX0_unitsThrough_29 : decode cX0_unitsThrough 29 = .ok (.goto 4, 3) := by decide +kernel
theorem dX0_unitsThrough_32 : decode cX0_unitsThrough 32 = .ok (.lconst 0, 1) := by decide +kernel
theorem dX0_unitsThrough_33 : decode cX0_unitsThrough 33 = .ok (.lreturn, 1) := by decide +kernel
theorem dX0_unitsOfStep_0 : decode cX0_unitsOfStep 0 = .ok (.lconst 0, 1) := by decide +kernel
theorem dX0_unitsOfStep_1 : decode cX0_unitsOfStep 1 = .ok (.lstore_n 3, 1) := by decide +kernel
theorem dX0_unitsOfStep_2 : decode cX0_unitsOfStep 2 = .ok (.iconst 0, 1) := by decide +kernel
theorem dX0_unitsOfStep_3 : decode cX0_unitsOfStep 3 = .ok (.istore 5, 2) := by decide +kernel
theorem dX0_unitsOfStep_5 : decode cX0_unitsOfStep 5 = .ok (.iload 5, 2) := by decide +kernel
theorem dX0_unitsOfStep_7 : decode cX0_unitsOfStep 7 = .ok (.aload_n 0, 1) := by decide +kernel
theorem dX0_unitsOfStep_8 : decode cX0_unitsOfStep 8 = .ok (.getfield 54, 3) := by decide +kernel
theorem dX0_unitsOfStep_11 : decode cX0_unitsOfStep 11 = .ok (.iconst 1, 1) := by decide +kernel
theorem dX0_unitsOfStep_12 : decode cX0_unitsOfStep 12 = .ok (.isub, 1) := by decide +kernel
theorem dX0_unitsOfStep_13 : decode cX0_unitsOfStep 13 = .ok (.if_icmp .ge 48, 3) := by decide +kernel
theorem dX0_unitsOfStep_16 : decode cX0_unitsOfStep 16 = .ok (.lload_n 3, 1) := by decide +kernel
theorem dX0_unitsOfStep_17 : decode cX0_unitsOfStep 17 = .ok (.aload_n 0, 1) := by decide +kernel
theorem dX0_unitsOfStep_18 : decode cX0_unitsOfStep 18 = .ok (.getfield 19, 3) := by decide +kernel
theorem dX0_unitsOfStep_21 : decode cX0_unitsOfStep 21 = .ok (.iload 5, 2) := by decide +kernel
theorem dX0_unitsOfStep_23 : decode cX0_unitsOfStep 23 = .ok (.iload_n 1, 1) := by decide +kernel
theorem dX0_unitsOfStep_24 : decode cX0_unitsOfStep 24 = .ok (.invokestatic 64, 3) := by decide +kernel
theorem dX0_unitsOfStep_27 : decode cX0_unitsOfStep 27 = .ok (.laload, 1) := by decide +kernel
theorem dX0_unitsOfStep_28 : decode cX0_unitsOfStep 28 = .ok (.aload_n 0, 1) := by decide +kernel
theorem dX0_unitsOfStep_29 : decode cX0_unitsOfStep 29 = .ok (.iload 5, 2) := by decide +kernel
theorem dX0_unitsOfStep_31 : decode cX0_unitsOfStep 31 = .ok (.iconst 1, 1) := by decide +kernel
theorem dX0_unitsOfStep_32 : decode cX0_unitsOfStep 32 = .ok (.iadd, 1) := by decide +kernel
theorem dX0_unitsOfStep_33 : decode cX0_unitsOfStep 33 = .ok (.iload_n 1, 1) := by decide +kernel
theorem dX0_unitsOfStep_34 : decode cX0_unitsOfStep 34 = .ok (.iload_n 2, 1) := by decide +kernel
theorem dX0_unitsOfStep_35 : decode cX0_unitsOfStep 35 = .ok (.invokevirtual 114, 3) := by decide +kernel
theorem dX0_unitsOfStep_38 : decode cX0_unitsOfStep 38 = .ok (.lmul, 1) := by decide +kernel
theorem dX0_unitsOfStep_39 : decode cX0_unitsOfStep 39 = .ok (.aload_n 0, 1) := by decide +kernel
theorem dX0_unitsOfStep_40 : decode cX0_unitsOfStep 40 = .ok (.getfield 23, 3) := by decide +kernel
theorem dX0_unitsOfStep_43 : decode cX0_unitsOfStep 43 = .ok (.iload 5, 2) := by decide +kernel
theorem dX0_unitsOfStep_45 : decode cX0_unitsOfStep 45 = .ok (.iconst 1, 1) := by decide +kernel
theorem dX0_unitsOfStep_46 : decode cX0_unitsOfStep 46 = .ok (.iadd, 1) := by decide +kernel
theorem dX0_unitsOfStep_47 : decode cX0_unitsOfStep 47 = .ok (.iload_n 2, 1) := by decide +kernel
theorem dX0_unitsOfStep_48 : decode cX0_unitsOfStep 48 = .ok (.invokestatic 64, 3) := by decide +kernel
theorem dX0_unitsOfStep_51 : decode cX0_unitsOfStep 51 = .ok (.laload, 1) := by decide +kernel
theorem dX0_unitsOfStep_52 : decode cX0_unitsOfStep 52 = .ok (.lmul, 1) := by decide +kernel
theorem dX0_unitsOfStep_53 : decode cX0_unitsOfStep 53 = .ok (.ladd, 1) := by decide +kernel
theorem dX0_unitsOfStep_54 : decode cX0_unitsOfStep 54 = .ok (.lstore_n 3, 1) := by decide +kernel
theorem dX0_unitsOfStep_55 : decode cX0_unitsOfStep 55 = .ok (.iinc 5 1, 3) := by decide +kernel
theorem dX0_unitsOfStep_58 : decode cX0_unitsOfStep 58 = .ok (.goto (-53), 3) := by decide +kernel
theorem dX0_unitsOfStep_61 : decode cX0_unitsOfStep 61 = .ok (.lload_n 3, 1) := by decide +kernel
theorem dX0_unitsOfStep_62 : decode cX0_unitsOfStep 62 = .ok (.lreturn, 1) := by decide +kernel
theorem dX0_unitsOfSymbol_0 : decode cX0_unitsOfSymbol 0 = .ok (.lconst 0, 1) := by decide +kernel
theorem dX0_unitsOfSymbol_1 : decode cX0_unitsOfSymbol 1 = .ok (.lstore_n 3, 1) := by decide +kernel
theorem dX0_unitsOfSymbol_2 : decode cX0_unitsOfSymbol 2 = .ok (.iconst 0, 1) := by decide +kernel
theorem dX0_unitsOfSymbol_3 : decode cX0_unitsOfSymbol 3 = .ok (.istore 5, 2) := by decide +kernel
theorem dX0_unitsOfSymbol_5 : decode cX0_unitsOfSymbol 5 = .ok (.iload 5, 2) := by decide +kernel
theorem dX0_unitsOfSymbol_7 : decode cX0_unitsOfSymbol 7 = .ok (.aload_n 0, 1) := by decide +kernel
theorem dX0_unitsOfSymbol_8 : decode cX0_unitsOfSymbol 8 = .ok (.getfield 54, 3) := by decide +kernel
theorem dX0_unitsOfSymbol_11 : decode cX0_unitsOfSymbol 11 = .ok (.if_icmp .ge 30, 3) := by decide +kernel
theorem dX0_unitsOfSymbol_14 : decode cX0_unitsOfSymbol 14 = .ok (.aload_n 0, 1) := by decide +kernel
theorem dX0_unitsOfSymbol_15 : decode cX0_unitsOfSymbol 15 = .ok (.getfield 16, 3) := by decide +kernel
theorem dX0_unitsOfSymbol_18 : decode cX0_unitsOfSymbol 18 = .ok (.iload 5, 2) := by decide +kernel
theorem dX0_unitsOfSymbol_20 : decode cX0_unitsOfSymbol 20 = .ok (.iaload, 1) := by decide +kernel
theorem dX0_unitsOfSymbol_21 : decode cX0_unitsOfSymbol 21 = .ok (.iload_n 2, 1) := by decide +kernel
theorem dX0_unitsOfSymbol_22 : decode cX0_unitsOfSymbol 22 = .ok (.if_icmp .ne 13, 3) := by decide +kernel
theorem dX0_unitsOfSymbol_25 : decode cX0_unitsOfSymbol 25 = .ok (.lload_n 3, 1) := by decide +kernel
theorem dX0_unitsOfSymbol_26 : decode cX0_unitsOfSymbol 26 = .ok (.aload_n 0, 1) := by decide +kernel
theorem dX0_unitsOfSymbol_27 : decode cX0_unitsOfSymbol 27 = .ok (.iload 5, 2) := by decide +kernel
theorem dX0_unitsOfSymbol_29 : decode cX0_unitsOfSymbol 29 = .ok (.iload_n 1, 1) := by decide +kernel
theorem dX0_unitsOfSymbol_30 : decode cX0_unitsOfSymbol 30 = .ok (.invokevirtual 154, 3) := by decide +kernel
theorem dX0_unitsOfSymbol_33 : decode cX0_unitsOfSymbol 33 = .ok (.ladd, 1) := by decide +kernel
theorem dX0_unitsOfSymbol_34 : decode cX0_unitsOfSymbol 34 = .ok (.lstore_n 3, 1) := by decide +kernel
theorem dX0_unitsOfSymbol_35 : decode cX0_unitsOfSymbol 35 = .ok (.iinc 5 1, 3) := by decide +kernel
theorem dX0_unitsOfSymbol_38 : decode cX0_unitsOfSymbol 38 = .ok (.goto (-33), 3) := by decide +kernel
theorem dX0_unitsOfSymbol_41 : decode cX0_unitsOfSymbol 41 = .ok (.lload_n 3, 1) := by decide +kernel
theorem dX0_unitsOfSymbol_42 : decode cX0_unitsOfSymbol 42 = .ok (.lreturn, 1) := by decide +kernel
theorem dX0_unitsOfRow_0 : decode cX0_unitsOfRow 0 = .ok (.lconst 0, 1) := by decide +kernel
theorem dX0_unitsOfRow_1 : decode cX0_unitsOfRow 1 = .ok (.lstore_n 3, 1) := by decide +kernel
theorem dX0_unitsOfRow_2 : decode cX0_unitsOfRow 2 = .ok (.iconst 0, 1) := by decide +kernel
theorem dX0_unitsOfRow_3 : decode cX0_unitsOfRow 3 = .ok (.istore 5, 2) := by decide +kernel
theorem dX0_unitsOfRow_5 : decode cX0_unitsOfRow 5 = .ok (.iload 5, 2) := by decide +kernel
theorem dX0_unitsOfRow_7 : decode cX0_unitsOfRow 7 = .ok (.aload_n 0, 1) := by decide +kernel
theorem dX0_unitsOfRow_8 : decode cX0_unitsOfRow 8 = .ok (.iload_n 1, 1) := by decide +kernel
theorem dX0_unitsOfRow_9 : decode cX0_unitsOfRow 9 = .ok (.invokevirtual 126, 3) := by decide +kernel
theorem dX0_unitsOfRow_12 : decode cX0_unitsOfRow 12 = .ok (.if_icmp .ge 20, 3) := by decide +kernel
theorem dX0_unitsOfRow_15 : decode cX0_unitsOfRow 15 = .ok (.lload_n 3, 1) := by decide +kernel
theorem dX0_unitsOfRow_16 : decode cX0_unitsOfRow 16 = .ok (.aload_n 0, 1) := by decide +kernel
theorem dX0_unitsOfRow_17 : decode cX0_unitsOfRow 17 = .ok (.iload_n 1, 1) := by decide +kernel
theorem dX0_unitsOfRow_18 : decode cX0_unitsOfRow 18 = .ok (.iload_n 2, 1) := by decide +kernel
theorem dX0_unitsOfRow_19 : decode cX0_unitsOfRow 19 = .ok (.iload 5, 2) := by decide +kernel
theorem dX0_unitsOfRow_21 : decode cX0_unitsOfRow 21 = .ok (.invokevirtual 77, 3) := by decide +kernel
theorem dX0_unitsOfRow_24 : decode cX0_unitsOfRow 24 = .ok (.ladd, 1) := by decide +kernel
theorem dX0_unitsOfRow_25 : decode cX0_unitsOfRow 25 = .ok (.lstore_n 3, 1) := by decide +kernel
theorem dX0_unitsOfRow_26 : decode cX0_unitsOfRow 26 = .ok (.iinc 5 1, 3) := by decide +kernel
theorem dX0_unitsOfRow_29 : decode cX0_unitsOfRow 29 = .ok (.goto (-24), 3) := by decide +kernel
theorem dX0_unitsOfRow_32 : decode cX0_unitsOfRow 32 = .ok (.lload_n 3, 1) := by decide +kernel
theorem dX0_unitsOfRow_33 : decode cX0_unitsOfRow 33 = .ok (.lreturn, 1) := by decide +kernel
theorem dX0_weightOfRow_0 : decode cX0_weightOfRow 0 = .ok (.lconst 0, 1) := by decide +kernel
theorem dX0_weightOfRow_1 : decode cX0_weightOfRow 1 = .ok (.lstore_n 3, 1) := by decide +kernel
theorem dX0_weightOfRow_2 : decode cX0_weightOfRow 2 = .ok (.iconst 0, 1) := by decide +kernel
theorem dX0_weightOfRow_3 : decode cX0_weightOfRow 3 = .ok (.istore 5, 2) := by decide +kernel
theorem dX0_weightOfRow_5 : decode cX0_weightOfRow 5 = .ok (.iload 5, 2) := by decide +kernel
theorem dX0_weightOfRow_7 : decode cX0_weightOfRow 7 = .ok (.aload_n 0, 1) := by decide +kernel
theorem dX0_weightOfRow_8 : decode cX0_weightOfRow 8 = .ok (.iload_n 1, 1) := by decide +kernel
theorem dX0_weightOfRow_9 : decode cX0_weightOfRow 9 = .ok (.invokevirtual 126, 3) := by decide +kernel
theorem dX0_weightOfRow_12 : decode cX0_weightOfRow 12 = .ok (.if_icmp .ge 25, 3) := by decide +kernel
theorem dX0_weightOfRow_15 : decode cX0_weightOfRow 15 = .ok (.lload_n 3, 1) := by decide +kernel
theorem dX0_weightOfRow_16 : decode cX0_weightOfRow 16 = .ok (.aload_n 0, 1) := by decide +kernel
theorem dX0_weightOfRow_17 : decode cX0_weightOfRow 17 = .ok (.getfield 9, 3) := by decide +kernel
theorem dX0_weightOfRow_20 : decode cX0_weightOfRow 20 = .ok (.iload_n 1, 1) := by decide +kernel
theorem dX0_weightOfRow_21 : decode cX0_weightOfRow 21 = .ok (.iload_n 2, 1) := by decide +kernel
theorem dX0_weightOfRow_22 : decode cX0_weightOfRow 22 = .ok (.iload 5, 2) := by decide +kernel
theorem dX0_weightOfRow_24 : decode cX0_weightOfRow 24 = .ok (.invokestatic 43, 3) := by decide +kernel
theorem dX0_weightOfRow_27 : decode cX0_weightOfRow 27 = .ok (.iaload, 1) := by decide +kernel
theorem dX0_weightOfRow_28 : decode cX0_weightOfRow 28 = .ok (.i2l, 1) := by decide +kernel
theorem dX0_weightOfRow_29 : decode cX0_weightOfRow 29 = .ok (.ladd, 1) := by decide +kernel
theorem dX0_weightOfRow_30 : decode cX0_weightOfRow 30 = .ok (.lstore_n 3, 1) := by decide +kernel
theorem dX0_weightOfRow_31 : decode cX0_weightOfRow 31 = .ok (.iinc 5 1, 3) := by decide +kernel
theorem dX0_weightOfRow_34 : decode cX0_weightOfRow 34 = .ok (.goto (-29), 3) := by decide +kernel
theorem dX0_weightOfRow_37 : decode cX0_weightOfRow 37 = .ok (.lload_n 3, 1) := by decide +kernel
theorem dX0_weightOfRow_38 : decode cX0_weightOfRow 38 = .ok (.lreturn, 1) := by decide +kernel
theorem dX0_learnedPortion_0 : decode cX0_learnedPortion 0 = .ok (.lload 4, 2) := by decide +kernel
theorem dX0_learnedPortion_2 : decode cX0_learnedPortion 2 = .ok (.lconst 0, 1) := by decide +kernel
theorem dX0_learnedPortion_3 : decode cX0_learnedPortion 3 = .ok (.lcmp, 1) := by decide +kernel
theorem dX0_learnedPortion_4 : decode cX0_learnedPortion 4 = .ok (.ifCond .eq 13, 3) := by decide +kernel
theorem dX0_learnedPortion_7 : decode cX0_learnedPortion 7 = .ok (.aload_n 0, 1) := by decide +kernel
theorem dX0_learnedPortion_8 : decode cX0_learnedPortion 8 = .ok (.iload_n 1, 1) := by decide +kernel
theorem dX0_learnedPortion_9 : decode cX0_learnedPortion 9 = .ok (.iload_n 2, 1) := by decide +kernel
theorem dX0_learnedPortion_10 : decode cX0_learnedPortion 10 = .ok (.iload_n 3, 1) := by decide +kernel
theorem dX0_learnedPortion_11 : decode cX0_learnedPortion 11 = .ok (.invokevirtual 77, 3) := by decide +kernel
theorem dX0_learnedPortion_14 : decode cX0_learnedPortion 14 = .ok (.goto 15, 3) := by decide +kernel
theorem dX0_learnedPortion_17 : decode cX0_learnedPortion 17 = .ok (.aload_n 0, 1) := by decide +kernel
theorem dX0_learnedPortion_18 : decode cX0_learnedPortion 18 = .ok (.getfield 9, 3) := by decide +kernel
theorem dX0_learnedPortion_21 : decode cX0_learnedPortion 21 = .ok (.iload_n 1, 1) := by decide +kernel
theorem dX0_learnedPortion_22 : decode cX0_learnedPortion 22 = .ok (.iload_n 2, 1) := by decide +kernel
theorem dX0_learnedPortion_23 : decode cX0_learnedPortion 23 = .ok (.iload_n 3, 1) := by decide +kernel
theorem dX0_learnedPortion_24 : decode cX0_learnedPortion 24 = .ok (.invokestatic 43, 3) := by decide +kernel
theorem dX0_learnedPortion_27 : decode cX0_learnedPortion 27 = .ok (.iaload, 1) := by decide +kernel
theorem dX0_learnedPortion_28 : decode cX0_learnedPortion 28 = .ok (.i2l, 1) := by decide +kernel
theorem dX0_learnedPortion_29 : decode cX0_learnedPortion 29 = .ok (.lreturn, 1) := by decide +kernel
theorem dX0_learnedWhole_0 : decode cX0_learnedWhole 0 = .ok (.lload_n 3, 1) := by decide +kernel
theorem dX0_learnedWhole_1 : decode cX0_learnedWhole 1 = .ok (.lconst 0, 1) := by decide +kernel
theorem dX0_learnedWhole_2 : decode cX0_learnedWhole 2 = .ok (.lcmp, 1) := by decide +kernel
theorem dX0_learnedWhole_3 : decode cX0_learnedWhole 3 = .ok (.ifCond .eq 7, 3) := by decide +kernel
theorem dX0_learnedWhole_6 : decode cX0_learnedWhole 6 = .ok (.lload_n 3, 1) := by decide +kernel
theorem dX0_learnedWhole_7 : decode cX0_learnedWhole 7 = .ok (.goto 9, 3) := by decide +kernel
theorem dX0_learnedWhole_10 : decode cX0_learnedWhole 10 = .ok (.aload_n 0, 1) := by decide +kernel
theorem dX0_learnedWhole_11 : decode cX0_learnedWhole 11 = .ok (.iload_n 1, 1) := by decide +kernel
theorem dX0_learnedWhole_12 : decode cX0_learnedWhole 12 = .ok (.iload_n 2, 1) := by decide +kernel
theorem dX0_learnedWhole_13 : decode cX0_learnedWhole 13 = .ok (.invokevirtual 163, 3) := by decide +kernel
theorem dX0_learnedWhole_16 : decode cX0_learnedWhole 16 = .ok (.lreturn, 1) := by decide +kernel
theorem dX0_learnRow_0 : decode cX0_learnRow 0 = .ok (.iconst 0, 1) := by decide +kernel
theorem dX0_learnRow_1 : decode cX0_learnRow 1 = .ok (.istore_n 3, 1) := by decide +kernel
theorem dX0_learnRow_2 : decode cX0_learnRow 2 = .ok (.aload_n 0, 1) := by decide +kernel
theorem dX0_learnRow_3 : decode cX0_learnRow 3 = .ok (.iload_n 1, 1) := by decide +kernel
theorem dX0_learnRow_4 : decode cX0_learnRow 4 = .ok (.iload_n 2, 1) := by decide +kernel
theorem dX0_learnRow_5 : decode cX0_learnRow 5 = .ok (.invokevirtual 89, 3) := by decide +kernel
theorem dX0_learnRow_8 : decode cX0_learnRow 8 = .ok (.lstore 4, 2) := by decide +kernel
theorem dX0_learnRow_10 : decode cX0_learnRow 10 = .ok (.aload_n 0, 1) := by decide +kernel
theorem dX0_learnRow_11 : decode cX0_learnRow 11 = .ok (.iload_n 1, 1) := by decide +kernel
theorem dX0_learnRow_12 : decode cX0_learnRow 12 = .ok (.iload_n 2, 1) := by decide +kernel
theorem dX0_learnRow_13 : decode cX0_learnRow 13 = .ok (.lload 4, 2) := by decide +kernel
theorem dX0_learnRow_15 : decode cX0_learnRow 15 = .ok (.invokevirtual 97, 3) := by decide +kernel
theorem dX0_learnRow_18 : decode cX0_learnRow 18 = .ok (.lstore 6, 2) := by decide +kernel
theorem dX0_learnRow_20 : decode cX0_learnRow 20 = .ok (.iconst 0, 1) := by decide +kernel
theorem dX0_learnRow_21 : decode cX0_learnRow 21 = .ok (.istore 8, 2) := by decide +kernel
theorem dX0_learnRow_23 : decode cX0_learnRow 23 = .ok (.iload 8, 2) := by decide +kernel
theorem dX0_learnRow_25 : decode cX0_learnRow 25 = .ok (.aload_n 0, 1) := by decide +kernel
theorem dX0_learnRow_26 : decode cX0_learnRow 26 = .ok (.iload_n 1, 1) := by decide +kernel
theorem dX0_learnRow_27 : decode cX0_learnRow 27 = .ok (.invokevirtual 126, 3) := by decide +kernel
theorem dX0_learnRow_30 : decode cX0_learnRow 30 = .ok (.if_icmp .ge 49, 3) := by decide +kernel
theorem dX0_learnRow_33 : decode cX0_learnRow 33 = .ok (.ldc2_w 166, 3) := by decide +kernel
theorem dX0_learnRow_36 : decode cX0_learnRow 36 = .ok (.aload_n 0, 1) := by decide +kernel
theorem dX0_learnRow_37 : decode cX0_learnRow 37 = .ok (.iload_n 1, 1) := by decide +kernel
theorem dX0_learnRow_38 : decode cX0_learnRow 38 = .ok (.iload_n 2, 1) := by decide +kernel
theorem dX0_learnRow_39 : decode cX0_learnRow 39 = .ok (.iload 8, 2) := by decide +kernel
theorem dX0_learnRow_41 : decode cX0_learnRow 41 = .ok (.lload 4, 2) := by decide +kernel
theorem dX0_learnRow_43 : decode cX0_learnRow 43 = .ok (.invokevirtual 93, 3) := by decide +kernel
theorem dX0_learnRow_46 : decode cX0_learnRow 46 = .ok (.lmul, 1) := by decide +kernel
theorem dX0_learnRow_47 : decode cX0_learnRow 47 = .ok (.lload 6, 2) := by decide +kernel
theorem dX0_learnRow_49 : decode cX0_learnRow 49 = .ok (.invokestatic 168, 3) := by decide +kernel
theorem dX0_learnRow_52 : decode cX0_learnRow 52 = .ok (.istore 9, 2) := by decide +kernel
theorem dX0_learnRow_54 : decode cX0_learnRow 54 = .ok (.aload_n 0, 1) := by decide +kernel
theorem dX0_learnRow_55 : decode cX0_learnRow 55 = .ok (.getfield 13, 3) := by decide +kernel
theorem dX0_learnRow_58 : decode cX0_learnRow 58 = .ok (.iload_n 1, 1) := by decide +kernel
theorem dX0_learnRow_59 : decode cX0_learnRow 59 = .ok (.iload_n 2, 1) := by decide +kernel
theorem dX0_learnRow_60 : decode cX0_learnRow 60 = .ok (.iload 8, 2) := by decide +kernel
theorem dX0_learnRow_62 : decode cX0_learnRow 62 = .ok (.invokestatic 43, 3) := by decide +kernel
theorem dX0_learnRow_65 : decode cX0_learnRow 65 = .ok (.iload 9, 2) := by decide +kernel
theorem dX0_learnRow_67 : decode cX0_learnRow 67 = .ok (.iastore, 1) := by decide +kernel
theorem dX0_learnRow_68 : decode cX0_learnRow 68 = .ok (.iload_n 3, 1) := by decide +kernel
theorem dX0_learnRow_69 : decode cX0_learnRow 69 = .ok (.iload 9, 2) := by decide +kernel
theorem dX0_learnRow_71 : decode cX0_learnRow 71 = .ok (.iadd, 1) := by decide +kernel
theorem dX0_learnRow_72 : decode cX0_learnRow 72 = .ok (.istore_n 3, 1) := by decide +kernel
theorem dX0_learnRow_73 : decode cX0_learnRow 73 = .ok (.iinc 8 1, 3) := by decide +kernel
theorem dX0_learnRow_76 : decode cX0_learnRow 76 = .ok (.goto (-53), 3) := by decide +kernel
theorem dX0_learnRow_79 : decode cX0_learnRow 79 = .ok (.iload_n 3, 1) := by decide +kernel
theorem dX0_learnRow_80 : decode cX0_learnRow 80 = .ok (.ireturn, 1) := by decide +kernel
theorem dX0_nearest_0 : decode cX0_nearest 0 = .ok (.lload_n 2, 1) := by decide +kernel
theorem dX0_nearest_1 : decode cX0_nearest 1 = .ok (.lconst 0, 1) := by decide +kernel
theorem dX0_nearest_2 : decode cX0_nearest 2 = .ok (.lcmp, 1) := by decide +kernel
theorem dX0_nearest_3 : decode cX0_nearest 3 = .ok (.ifCond .le 20, 3) := by decide +kernel
theorem dX0_nearest_6 : decode cX0_nearest 6 = .ok (.ldc2_w 172, 3) := by decide +kernel
theorem dX0_nearest_9 : decode cX0_nearest 9 = .ok (.lload_n 0, 1) := by decide +kernel
theorem dX0_nearest_10 : decode cX0_nearest 10 = .ok (.lmul, 1) := by decide +kernel
theorem dX0_nearest_11 : decode cX0_nearest 11 = .ok (.lload_n 2, 1) := by decide +kernel
theorem dX0_nearest_12 : decode cX0_nearest 12 = .ok (.ladd, 1) := by decide +kernel
theorem dX0_nearest_13 : decode cX0_nearest 13 = .ok (.ldc2_w 172, 3) := by decide +kernel
theorem dX0_nearest_16 : decode cX0_nearest 16 = .ok (.lload_n 2, 1) := by decide +kernel
theorem dX0_nearest_17 : decode cX0_nearest 17 = .ok (.lmul, 1) := by decide +kernel
theorem dX0_nearest_18 : decode cX0_nearest 18 = .ok (.ldiv, 1) := by decide +kernel
theorem dX0_nearest_19 : decode cX0_nearest 19 = .ok (.l2i, 1) := by decide +kernel
theorem dX0_nearest_20 : decode cX0_nearest 20 = .ok (.goto 4, 3) := by decide +kernel
theorem dX0_nearest_23 : decode cX0_nearest 23 = .ok (.iconst 0, 1) := by decide +kernel
theorem dX0_nearest_24 : decode cX0_nearest 24 = .ok (.ireturn, 1) := by decide +kernel
theorem dX0_partOf_0 : decode cX0_partOf 0 = .ok (.iload 4, 2) := by decide +kernel
theorem dX0_partOf_2 : decode cX0_partOf 2 = .ok (.ifCond .eq 11, 3) := by decide +kernel
theorem dX0_partOf_5 : decode cX0_partOf 5 = .ok (.iload 4, 2) := by decide +kernel
theorem dX0_partOf_7 : decode cX0_partOf 7 = .ok (.iconst 1, 1) := by decide +kernel
theorem dX0_partOf_8 : decode cX0_partOf 8 = .ok (.if_icmp .eq 5, 3) := by decide +kernel
theorem dX0_partOf_11 : decode cX0_partOf 11 = .ok (.lconst 0, 1) := by decide +kernel
theorem dX0_partOf_12 : decode cX0_partOf 12 = .ok (.lreturn, 1) := by decide +kernel
theorem dX0_partOf_13 : decode cX0_partOf 13 = .ok (.lload_n 0, 1) := by decide +kernel
theorem dX0_partOf_14 : decode cX0_partOf 14 = .ok (.lload_n 2, 1) := by decide +kernel
theorem dX0_partOf_15 : decode cX0_partOf 15 = .ok (.invokestatic 174, 3) := by decide +kernel
theorem dX0_partOf_18 : decode cX0_partOf 18 = .ok (.lstore 5, 2) := by decide +kernel
theorem dX0_partOf_20 : decode cX0_partOf 20 = .ok (.lload_n 0, 1) := by decide +kernel
theorem dX0_partOf_21 : decode cX0_partOf 21 = .ok (.lconst 0, 1) := by decide +kernel
theorem dX0_partOf_22 : decode cX0_partOf 22 = .ok (.lcmp, 1) := by decide +kernel
theorem dX0_partOf_23 : decode cX0_partOf 23 = .ok (.ifCond .eq 10, 3) := by decide +kernel
theorem dX0_partOf_26 : decode cX0_partOf 26 = .ok (.lload 5, 2) := by decide +kernel
theorem dX0_partOf_28 : decode cX0_partOf 28 = .ok (.lconst 0, 1) := by decide +kernel
theorem dX0_partOf_29 : decode cX0_partOf 29 = .ok (.lcmp, 1) := by decide +kernel
theorem dX0_partOf_30 : decode cX0_partOf 30 = .ok (.ifCond .ne 7, 3) := by decide +kernel
theorem dX0_partOf_33 : decode cX0_partOf 33 = .ok (.iload 4, 2) := by decide +kernel
theorem dX0_partOf_35 : decode cX0_partOf 35 = .ok (.i2l, 1) := by decide +kernel
theorem dX0_partOf_36 : decode cX0_partOf 36 = .ok (.lreturn, 1) := by decide +kernel
theorem dX0_partOf_37 : decode cX0_partOf 37 = .ok (.iload 4, 2) := by decide +kernel
theorem dX0_partOf_39 : decode cX0_partOf 39 = .ok (.ifCond .ne 7, 3) := by decide +kernel
theorem dX0_partOf_42 : decode cX0_partOf 42 = .ok (.lload_n 0, 1) := by decide +kernel
theorem dX0_partOf_43 : decode cX0_partOf 43 = .ok (.goto 4, 3) := by decide +kernel
theorem dX0_partOf_46 : decode cX0_partOf 46 = .ok (.lload_n 2, 1) := by decide +kernel
theorem dX0_partOf_47 : decode cX0_partOf 47 = .ok (.lload 5, 2) := by decide +kernel
theorem dX0_partOf_49 : decode cX0_partOf 49 = .ok (.ldiv, 1) := by decide +kernel
theorem dX0_partOf_50 : decode cX0_partOf 50 = .ok (.lreturn, 1) := by decide +kernel
theorem dX0_commonDivisor_0 : decode cX0_commonDivisor 0 = .ok (.lload_n 0, 1) := by decide +kernel
theorem dX0_commonDivisor_1 : decode cX0_commonDivisor 1 = .ok (.lstore 4, 2) := by decide +kernel
theorem dX0_commonDivisor_3 : decode cX0_commonDivisor 3 = .ok (.lload_n 2, 1) := by decide +kernel
theorem dX0_commonDivisor_4 : decode cX0_commonDivisor 4 = .ok (.lstore 6, 2) := by decide +kernel
theorem dX0_commonDivisor_6 : decode cX0_commonDivisor 6 = .ok (.iconst 0, 1) := by decide +kernel
theorem dX0_commonDivisor_7 : decode cX0_commonDivisor 7 = .ok (.istore 8, 2) := by decide +kernel
theorem dX0_commonDivisor_9 : decode cX0_commonDivisor 9 = .ok (.iload 8, 2) := by decide +kernel
theorem dX0_commonDivisor_11 : decode cX0_commonDivisor 11 = .ok (.sipush 1000, 3) := by decide +kernel
theorem dX0_commonDivisor_14 : decode cX0_commonDivisor 14 = .ok (.if_icmp .ge 31, 3) := by decide +kernel
theorem dX0_commonDivisor_17 : decode cX0_commonDivisor 17 = .ok (.lload 6, 2) := by decide +kernel
theorem dX0_commonDivisor_19 : decode cX0_commonDivisor 19 = .ok (.lconst 0, 1) := by decide +kernel
theorem dX0_commonDivisor_20 : decode cX0_commonDivisor 20 = .ok (.lcmp, 1) := by decide +kernel
theorem dX0_commonDivisor_21 : decode cX0_commonDivisor 21 = .ok (.ifCond .eq 24, 3) := by decide +kernel
theorem dX0_commonDivisor_24 : decode cX0_commonDivisor 24 = .ok (.lload 4, 2) := by decide +kernel
theorem dX0_commonDivisor_26 : decode cX0_commonDivisor 26 = .ok (.lload 6, 2) := by decide +kernel
theorem dX0_commonDivisor_28 : decode cX0_commonDivisor 28 = .ok (.lrem, 1) := by decide +kernel
theorem dX0_commonDivisor_29 : decode cX0_commonDivisor 29 = .ok (.lstore 9, 2) := by decide +kernel
theorem dX0_commonDivisor_31 : decode cX0_commonDivisor 31 = .ok (.lload 6, 2) := by decide +kernel
theorem dX0_commonDivisor_33 : decode cX0_commonDivisor 33 = .ok (.lstore 4, 2) := by decide +kernel
theorem dX0_commonDivisor_35 : decode cX0_commonDivisor 35 = .ok (.lload 9, 2) := by decide +kernel
theorem dX0_commonDivisor_37 : decode cX0_commonDivisor 37 = .ok (.lstore 6, 2) := by decide +kernel
theorem dX0_commonDivisor_39 : decode cX0_commonDivisor 39 = .ok (.iinc 8 1, 3) := by decide +kernel
theorem dX0_commonDivisor_42 : decode cX0_commonDivisor 42 = .ok (.goto (-33), 3) := by decide +kernel
theorem dX0_commonDivisor_45 : decode cX0_commonDivisor 45 = .ok (.lload 4, 2) := by decide +kernel
theorem dX0_commonDivisor_47 : decode cX0_commonDivisor 47 = .ok (.lreturn, 1) := by decide +kernel
theorem dJ7_fill_0 : decode cJ7_fill 0 = .ok (.iconst 0, 1) := by decide +kernel
theorem dJ7_fill_1 : decode cJ7_fill 1 = .ok (.istore_n 2, 1) := by decide +kernel
theorem dJ7_fill_2 : decode cJ7_fill 2 = .ok (.aload_n 0, 1) := by decide +kernel
theorem dJ7_fill_3 : decode cJ7_fill 3 = .ok (.arraylength, 1) := by decide +kernel
theorem dJ7_fill_4 : decode cJ7_fill 4 = .ok (.istore_n 3, 1) := by decide +kernel
theorem dJ7_fill_5 : decode cJ7_fill 5 = .ok (.iload_n 2, 1) := by decide +kernel
theorem dJ7_fill_6 : decode cJ7_fill 6 = .ok (.iload_n 3, 1) := by decide +kernel
theorem dJ7_fill_7 : decode cJ7_fill 7 = .ok (.if_icmp .ge 13, 3) := by decide +kernel
theorem dJ7_fill_10 : decode cJ7_fill 10 = .ok (.aload_n 0, 1) := by decide +kernel
theorem dJ7_fill_11 : decode cJ7_fill 11 = .ok (.iload_n 2, 1) := by decide +kernel
theorem dJ7_fill_12 : decode cJ7_fill 12 = .ok (.iload_n 1, 1) := by decide +kernel
theorem dJ7_fill_13 : decode cJ7_fill 13 = .ok (.iastore, 1) := by decide +kernel
theorem dJ7_fill_14 : decode cJ7_fill 14 = .ok (.iinc 2 1, 3) := by decide +kernel
theorem dJ7_fill_17 : decode cJ7_fill 17 = .ok (.goto (-12), 3) := by decide +kernel
theorem dJ7_fill_20 : decode cJ7_fill 20 = .ok (.return_, 1) := by decide +kernel
