theorem dX5_init_0 : decode cX5_init 0 = .ok (.aload_n 0, 1) := by decide +kernel
theorem dX5_init_1 : decode cX5_init 1 = .ok (.invokespecial 3, 3) := by decide +kernel
theorem dX5_init_4 : decode cX5_init 4 = .ok (.aload_n 0, 1) := by decide +kernel
theorem dX5_init_5 : decode cX5_init 5 = .ok (.bipush 64, 2) := by decide +kernel
theorem dX5_init_7 : decode cX5_init 7 = .ok (.newarray .int, 2) := by decide +kernel
theorem dX5_init_9 : decode cX5_init 9 = .ok (.putfield 9, 3) := by decide +kernel
theorem dX5_init_12 : decode cX5_init 12 = .ok (.aload_n 0, 1) := by decide +kernel
theorem dX5_init_13 : decode cX5_init 13 = .ok (.bipush 64, 2) := by decide +kernel
theorem dX5_init_15 : decode cX5_init 15 = .ok (.newarray .int, 2) := by decide +kernel
theorem dX5_init_17 : decode cX5_init 17 = .ok (.putfield 13, 3) := by decide +kernel
theorem dX5_init_20 : decode cX5_init 20 = .ok (.aload_n 0, 1) := by decide +kernel
theorem dX5_init_21 : decode cX5_init 21 = .ok (.sipush 512, 3) := by decide +kernel
theorem dX5_init_24 : decode cX5_init 24 = .ok (.newarray .int, 2) := by decide +kernel
theorem dX5_init_26 : decode cX5_init 26 = .ok (.putfield 16, 3) := by decide +kernel
theorem dX5_init_29 : decode cX5_init 29 = .ok (.aload_n 0, 1) := by decide +kernel
theorem dX5_init_30 : decode cX5_init 30 = .ok (.bipush 64, 2) := by decide +kernel
theorem dX5_init_32 : decode cX5_init 32 = .ok (.newarray .int, 2) := by decide +kernel
theorem dX5_init_34 : decode cX5_init 34 = .ok (.putfield 19, 3) := by decide +kernel
theorem dX5_init_37 : decode cX5_init 37 = .ok (.aload_n 0, 1) := by decide +kernel
theorem dX5_init_38 : decode cX5_init 38 = .ok (.bipush 40, 2) := by decide +kernel
theorem dX5_init_40 : decode cX5_init 40 = .ok (.newarray .int, 2) := by decide +kernel
theorem dX5_init_42 : decode cX5_init 42 = .ok (.putfield 22, 3) := by decide +kernel
theorem dX5_init_45 : decode cX5_init 45 = .ok (.aload_n 0, 1) := by decide +kernel
theorem dX5_init_46 : decode cX5_init 46 = .ok (.bipush 60, 2) := by decide +kernel
theorem dX5_init_48 : decode cX5_init 48 = .ok (.newarray .char, 2) := by decide +kernel
theorem dX5_init_50 : decode cX5_init 50 = .ok (.putfield 25, 3) := by decide +kernel
theorem dX5_init_53 : decode cX5_init 53 = .ok (.aload_n 0, 1) := by decide +kernel
theorem dX5_init_54 : decode cX5_init 54 = .ok (.iconst 3, 1) := by decide +kernel
theorem dX5_init_55 : decode cX5_init 55 = .ok (.newarray .int, 2) := by decide +kernel
theorem dX5_init_57 : decode cX5_init 57 = .ok (.putfield 29, 3) := by decide +kernel
theorem dX5_init_60 : decode cX5_init 60 = .ok (.aload_n 0, 1) := by decide +kernel
theorem dX5_init_61 : decode cX5_init 61 = .ok (.iconst (-1), 1) := by decide +kernel
theorem dX5_init_62 : decode cX5_init 62 = .ok (.putfield 32, 3) := by decide +kernel
theorem dX5_init_65 : decode cX5_init 65 = .ok (.aload_n 0, 1) := by decide +kernel
theorem dX5_init_66 : decode cX5_init 66 = .ok (.getfield 9, 3) := by decide +kernel
theorem dX5_init_69 : decode cX5_init 69 = .ok (.iconst 2, 1) := by decide +kernel
theorem dX5_init_70 : decode cX5_init 70 = .ok (.bipush 20, 2) := by decide +kernel
theorem dX5_init_72 : decode cX5_init 72 = .ok (.iastore, 1) := by decide +kernel
theorem dX5_init_73 : decode cX5_init 73 = .ok (.return_, 1) := by decide +kernel
theorem dX5_thrown_0 : decode cX5_thrown 0 = .ok (.aload_n 0, 1) := by decide +kernel
theorem dX5_thrown_1 : decode cX5_thrown 1 = .ok (.getfield 36, 3) := by decide +kernel
theorem dX5_thrown_4 : decode cX5_thrown 4 = .ok (.ireturn, 1) := by decide +kernel
theorem dX5_raises_0 : decode cX5_raises 0 = .ok (.aload_n 0, 1) := by decide +kernel
theorem dX5_raises_1 : decode cX5_raises 1 = .ok (.iload_n 1, 1) := by decide +kernel
theorem dX5_raises_2 : decode cX5_raises 2 = .ok (.putfield 36, 3) := by decide +kernel
theorem dX5_raises_5 : decode cX5_raises 5 = .ok (.iconst 0, 1) := by decide +kernel
theorem dX5_raises_6 : decode cX5_raises 6 = .ok (.ireturn, 1) := by decide +kernel
theorem dX5_in_0 : decode cX5_in 0 = .ok (.iload_n 0, 1) := by decide +kernel
theorem dX5_in_1 : decode cX5_in 1 = .ok (.iload_n 1, 1) := by decide +kernel
theorem dX5_in_2 : decode cX5_in 2 = .ok (.if_icmp .lt 12, 3) := by decide +kernel
theorem dX5_in_5 : decode cX5_in 5 = .ok (.iload_n 0, 1) := by decide +kernel
theorem dX5_in_6 : decode cX5_in 6 = .ok (.iload_n 2, 1) := by decide +kernel
theorem dX5_in_7 : decode cX5_in 7 = .ok (.if_icmp .gt 7, 3) := by decide +kernel
theorem dX5_in_10 : decode cX5_in 10 = .ok (.iconst 1, 1) := by decide +kernel
theorem dX5_in_11 : decode cX5_in 11 = .ok (.goto 4, 3) := by decide +kernel
theorem dX5_in_14 : decode cX5_in 14 = .ok (.iconst 0, 1) := by decide +kernel
theorem dX5_in_15 : decode cX5_in 15 = .ok (.ireturn, 1) := by decide +kernel
theorem dX5_tries_0 : decode cX5_tries 0 = .ok (.aload_n 0, 1) := by decide +kernel
theorem dX5_tries_1 : decode cX5_tries 1 = .ok (.iconst 0, 1) := by decide +kernel
theorem dX5_tries_2 : decode cX5_tries 2 = .ok (.putfield 36, 3) := by decide +kernel
theorem dX5_tries_5 : decode cX5_tries 5 = .ok (.aload_n 0, 1) := by decide +kernel
theorem dX5_tries_6 : decode cX5_tries 6 = .ok (.iconst 0, 1) := by decide +kernel
theorem dX5_tries_7 : decode cX5_tries 7 = .ok (.putfield 39, 3) := by decide +kernel
theorem dX5_tries_10 : decode cX5_tries 10 = .ok (.iconst 0, 1) := by decide +kernel
theorem dX5_tries_11 : decode cX5_tries 11 = .ok (.istore_n 1, 1) := by decide +kernel
theorem dX5_tries_12 : decode cX5_tries 12 = .ok (.iload_n 1, 1) := by decide +kernel
theorem dX5_tries_13 : decode cX5_tries 13 = .ok (.bipush 64, 2) := by decide +kernel
theorem dX5_tries_15 : decode cX5_tries 15 = .ok (.if_icmp .ge 21, 3) := by decide +kernel
theorem dX5_tries_18 : decode cX5_tries 18 = .ok (.aload_n 0, 1) := by decide +kernel
theorem dX5_tries_19 : decode cX5_tries 19 = .ok (.getfield 13, 3) := by decide +kernel
theorem dX5_tries_22 : decode cX5_tries 22 = .ok (.iload_n 1, 1) := by decide +kernel
theorem dX5_tries_23 : decode cX5_tries 23 = .ok (.aload_n 0, 1) := by decide +kernel
theorem dX5_tries_24 : decode cX5_tries 24 = .ok (.getfield 9, 3) := by decide +kernel
theorem dX5_tries_27 : decode cX5_tries 27 = .ok (.iload_n 1, 1) := by decide +kernel
theorem dX5_tries_28 : decode cX5_tries 28 = .ok (.iaload, 1) := by decide +kernel
theorem dX5_tries_29 : decode cX5_tries 29 = .ok (.iastore, 1) := by decide +kernel
theorem dX5_tries_30 : decode cX5_tries 30 = .ok (.iinc 1 1, 3) := by decide +kernel
theorem dX5_tries_33 : decode cX5_tries 33 = .ok (.goto (-21), 3) := by decide +kernel
theorem dX5_tries_36 : decode cX5_tries 36 = .ok (.return_, 1) := by decide +kernel
theorem dX5_comesBack_0 : decode cX5_comesBack 0 = .ok (.iconst 0, 1) := by decide +kernel
theorem dX5_comesBack_1 : decode cX5_comesBack 1 = .ok (.istore_n 1, 1) := by decide +kernel
theorem dX5_comesBack_2 : decode cX5_comesBack 2 = .ok (.iload_n 1, 1) := by decide +kernel
theorem dX5_comesBack_3 : decode cX5_comesBack 3 = .ok (.bipush 64, 2) := by decide +kernel
theorem dX5_comesBack_5 : decode cX5_comesBack 5 = .ok (.if_icmp .ge 21, 3) := by decide +kernel
theorem dX5_comesBack_8 : decode cX5_comesBack 8 = .ok (.aload_n 0, 1) := by decide +kernel
theorem dX5_comesBack_9 : decode cX5_comesBack 9 = .ok (.getfield 9, 3) := by decide +kernel
theorem dX5_comesBack_12 : decode cX5_comesBack 12 = .ok (.iload_n 1, 1) := by decide +kernel
theorem dX5_comesBack_13 : decode cX5_comesBack 13 = .ok (.aload_n 0, 1) := by decide +kernel
theorem dX5_comesBack_14 : decode cX5_comesBack 14 = .ok (.getfield 13, 3) := by decide +kernel
theorem dX5_comesBack_17 : decode cX5_comesBack 17 = .ok (.iload_n 1, 1) := by decide +kernel
theorem dX5_comesBack_18 : decode cX5_comesBack 18 = .ok (.iaload, 1) := by decide +kernel
theorem dX5_comesBack_19 : decode cX5_comesBack 19 = .ok (.iastore, 1) := by decide +kernel
theorem dX5_comesBack_20 : decode cX5_comesBack 20 = .ok (.iinc 1 1, 3) := by decide +kernel
theorem dX5_comesBack_23 : decode cX5_comesBack 23 = .ok (.goto (-21), 3) := by decide +kernel
theorem dX5_comesBack_26 : decode cX5_comesBack 26 = .ok (.return_, 1) := by decide +kernel
theorem dX5_keeps_0 : decode cX5_keeps 0 = .ok (.aload_n 0, 1) := by decide +kernel
theorem dX5_keeps_1 : decode cX5_keeps 1 = .ok (.getfield 42, 3) := by decide +kernel
theorem dX5_keeps_4 : decode cX5_keeps 4 = .ok (.bipush 8, 2) := by decide +kernel
theorem dX5_keeps_6 : decode cX5_keeps 6 = .ok (.if_icmp .ne 43, 3) := by decide +kernel
theorem dX5_keeps_9 : decode cX5_keeps 9 = .ok (.iconst 0, 1) := by decide +kernel
theorem dX5_keeps_10 : decode cX5_keeps 10 = .ok (.istore_n 2, 1) := by decide +kernel
theorem dX5_keeps_11 : decode cX5_keeps 11 = .ok (.iload_n 2, 1) := by decide +kernel
theorem dX5_keeps_12 : decode cX5_keeps 12 = .ok (.sipush 448, 3) := by decide +kernel
theorem dX5_keeps_15 : decode cX5_keeps 15 = .ok (.if_icmp .ge 24, 3) := by decide +kernel
theorem dX5_keeps_18 : decode cX5_keeps 18 = .ok (.aload_n 0, 1) := by decide +kernel
theorem dX5_keeps_19 : decode cX5_keeps 19 = .ok (.getfield 16, 3) := by decide +kernel
theorem dX5_keeps_22 : decode cX5_keeps 22 = .ok (.iload_n 2, 1) := by decide +kernel
theorem dX5_keeps_23 : decode cX5_keeps 23 = .ok (.aload_n 0, 1) := by decide +kernel
theorem dX5_keeps_24 : decode cX5_keeps 24 = .ok (.getfield 16, 3) := by decide +kernel
theorem dX5_keeps_27 : decode cX5_keeps 27 = .ok (.bipush 64, 2) := by decide +kernel
theorem dX5_keeps_29 : decode cX5_keeps 29 = .ok (.iload_n 2, 1) := by decide +kernel
theorem dX5_keeps_30 : decode cX5_keeps 30 = .ok (.iadd, 1) := by decide +kernel
theorem dX5_keeps_31 : decode cX5_keeps 31 = .ok (.iaload, 1) := by decide +kernel
theorem dX5_keeps_32 : decode cX5_keeps 32 = .ok (.iastore, 1) := by decide +kernel
theorem dX5_keeps_33 : decode cX5_keeps 33 = .ok (.iinc 2 1, 3) := by decide +kernel
theorem dX5_keeps_36 : decode cX5_keeps 36 = .ok (.goto (-25), 3) := by decide +kernel
theorem dX5_keeps_39 : decode cX5_keeps 39 = .ok (.aload_n 0, 1) := by decide +kernel
theorem dX5_keeps_40 : decode cX5_keeps 40 = .ok (.dup, 1) := by decide +kernel
theorem dX5_keeps_41 : decode cX5_keeps 41 = .ok (.getfield 42, 3) := by decide +kernel
theorem dX5_keeps_44 : decode cX5_keeps 44 = .ok (.iconst 1, 1) := by decide +kernel
theorem dX5_keeps_45 : decode cX5_keeps 45 = .ok (.isub, 1) := by decide +kernel
theorem dX5_keeps_46 : decode cX5_keeps 46 = .ok (.putfield 42, 3) := by decide +kernel
theorem dX5_keeps_49 : decode cX5_keeps 49 = .ok (.iconst 0, 1) := by decide +kernel
theorem dX5_keeps_50 : decode cX5_keeps 50 = .ok (.istore_n 2, 1) := by decide +kernel
theorem dX5_keeps_51 : decode cX5_keeps 51 = .ok (.iload_n 2, 1) := by decide +kernel
theorem dX5_keeps_52 : decode cX5_keeps 52 = .ok (.bipush 64, 2) := by decide +kernel
theorem dX5_keeps_54 : decode cX5_keeps 54 = .ok (.if_icmp .ge 29, 3) := by decide +kernel
theorem dX5_keeps_57 : decode cX5_keeps 57 = .ok (.aload_n 0, 1) := by decide +kernel
theorem dX5_keeps_58 : decode cX5_keeps 58 = .ok (.getfield 16, 3) := by decide +kernel
theorem dX5_keeps_61 : decode cX5_keeps 61 = .ok (.bipush 64, 2) := by decide +kernel
theorem dX5_keeps_63 : decode cX5_keeps 63 = .ok (.aload_n 0, 1) := by decide +kernel
theorem dX5_keeps_64 : decode cX5_keeps 64 = .ok (.getfield 42, 3) := by decide +kernel
theorem dX5_keeps_67 : decode cX5_keeps 67 = .ok (.imul, 1) := by decide +kernel
theorem dX5_keeps_68 : decode cX5_keeps 68 = .ok (.iload_n 2, 1) := by decide +kernel
theorem dX5_keeps_69 : decode cX5_keeps 69 = .ok (.iadd, 1) := by decide +kernel
theorem dX5_keeps_70 : decode cX5_keeps 70 = .ok (.aload_n 0, 1) := by decide +kernel
theorem dX5_keeps_71 : decode cX5_keeps 71 = .ok (.getfield 13, 3) := by decide +kernel
theorem dX5_keeps_74 : decode cX5_keeps 74 = .ok (.iload_n 2, 1) := by decide +kernel
theorem dX5_keeps_75 : decode cX5_keeps 75 = .ok (.iaload, 1) := by decide +kernel
theorem dX5_keeps_76 : decode cX5_keeps 76 = .ok (.iastore, 1) := by decide +kernel
theorem dX5_keeps_77 : decode cX5_keeps 77 = .ok (.iinc 2 1, 3) := by decide +kernel
theorem dX5_keeps_80 : decode cX5_keeps 80 = .ok (.goto (-29), 3) := by decide +kernel
theorem dX5_keeps_83 : decode cX5_keeps 83 = .ok (.aload_n 0, 1) := by decide +kernel
theorem dX5_keeps_84 : decode cX5_keeps 84 = .ok (.dup, 1) := by decide +kernel
theorem dX5_keeps_85 : decode cX5_keeps 85 = .ok (.getfield 42, 3) := by decide +kernel
theorem dX5_keeps_88 : decode cX5_keeps 88 = .ok (.iconst 1, 1) := by decide +kernel
theorem dX5_keeps_89 : decode cX5_keeps 89 = .ok (.iadd, 1) := by decide +kernel
theorem dX5_keeps_90 : decode cX5_keeps 90 = .ok (.putfield 42, 3) := by decide +kernel
theorem dX5_keeps_93 : decode cX5_keeps 93 = .ok (.iload_n 1, 1) := by decide +kernel
theorem dX5_keeps_94 : decode cX5_keeps 94 = .ok (.ireturn, 1) := by decide +kernel
theorem dX5_refuses_0 : decode cX5_refuses 0 = .ok (.aload_n 0, 1) := by decide +kernel
theorem dX5_refuses_1 : decode cX5_refuses 1 = .ok (.iload_n 1, 1) := by decide +kernel
theorem dX5_refuses_2 : decode cX5_refuses 2 = .ok (.putfield 45, 3) := by decide +kernel
theorem dX5_refuses_5 : decode cX5_refuses 5 = .ok (.aload_n 0, 1) := by decide +kernel
theorem dX5_refuses_6 : decode cX5_refuses 6 = .ok (.iload_n 2, 1) := by decide +kernel
theorem dX5_refuses_7 : decode cX5_refuses 7 = .ok (.putfield 48, 3) := by decide +kernel
theorem dX5_refuses_10 : decode cX5_refuses 10 = .ok (.aload_n 0, 1) := by decide +kernel
theorem dX5_refuses_11 : decode cX5_refuses 11 = .ok (.aload_n 0, 1) := by decide +kernel
theorem dX5_refuses_12 : decode cX5_refuses 12 = .ok (.getfield 39, 3) := by decide +kernel
theorem dX5_refuses_15 : decode cX5_refuses 15 = .ok (.putfield 51, 3) := by decide +kernel
theorem dX5_refuses_18 : decode cX5_refuses 18 = .ok (.iconst 0, 1) := by decide +kernel
theorem dX5_refuses_19 : decode cX5_refuses 19 = .ok (.ireturn, 1) := by decide +kernel
theorem dX5_does_0 : decode cX5_does 0 = .ok (.aload_n 0, 1) := by decide +kernel
theorem dX5_does_1 : decode cX5_does 1 = .ok (.iload_n 1, 1) := by decide +kernel
theorem dX5_does_2 : decode cX5_does 2 = .ok (.putfield 54, 3) := by decide +kernel
theorem dX5_does_5 : decode cX5_does 5 = .ok (.iconst 1, 1) := by decide +kernel
theorem dX5_does_6 : decode cX5_does 6 = .ok (.ireturn, 1) := by decide +kernel
theorem dX5_ends_0 : decode cX5_ends 0 = .ok (.iload_n 1, 1) := by decide +kernel
theorem dX5_ends_1 : decode cX5_ends 1 = .ok (.ifCond .eq 14, 3) := by decide +kernel
theorem dX5_ends_4 : decode cX5_ends 4 = .ok (.aload_n 0, 1) := by decide +kernel
theorem dX5_ends_5 : decode cX5_ends 5 = .ok (.aload_n 0, 1) := by decide +kernel
theorem dX5_ends_6 : decode cX5_ends 6 = .ok (.getfield 54, 3) := by decide +kernel
theorem dX5_ends_9 : decode cX5_ends 9 = .ok (.invokevirtual 57, 3) := by decide +kernel
theorem dX5_ends_12 : decode cX5_ends 12 = .ok (.goto 8, 3) := by decide +kernel
theorem dX5_ends_15 : decode cX5_ends 15 = .ok (.aload_n 0, 1) := by decide +kernel
theorem dX5_ends_16 : decode cX5_ends 16 = .ok (.iconst 1, 1) := by decide +kernel
theorem dX5_ends_17 : decode cX5_ends 17 = .ok (.invokevirtual 61, 3) := by decide +kernel
theorem dX5_ends_20 : decode cX5_ends 20 = .ok (.ireturn, 1) := by decide +kernel
theorem dX5_weight_0 : decode cX5_weight 0 = .ok (.iload_n 0, 1) := by decide +kernel
theorem dX5_weight_1 : decode cX5_weight 1 = .ok (.iconst 3, 1) := by decide +kernel
theorem dX5_weight_2 : decode cX5_weight 2 = .ok (.idiv, 1) := by decide +kernel
theorem dX5_weight_3 : decode cX5_weight 3 = .ok (.ifCond .ne 7, 3) := by decide +kernel
theorem dX5_weight_6 : decode cX5_weight 6 = .ok (.iconst 1, 1) := by decide +kernel
theorem dX5_weight_7 : decode cX5_weight 7 = .ok (.goto 17, 3) := by decide +kernel
theorem dX5_weight_10 : decode cX5_weight 10 = .ok (.iload_n 0, 1) := by decide +kernel
theorem dX5_weight_11 : decode cX5_weight 11 = .ok (.iconst 3, 1) := by decide +kernel
theorem dX5_weight_12 : decode cX5_weight 12 = .ok (.idiv, 1) := by decide +kernel
theorem dX5_weight_13 : decode cX5_weight 13 = .ok (.iconst 1, 1) := by decide +kernel
theorem dX5_weight_14 : decode cX5_weight 14 = .ok (.if_icmp .ne 8, 3) := by decide +kernel
theorem dX5_weight_17 : decode cX5_weight 17 = .ok (.bipush 10, 2) := by decide +kernel
theorem dX5_weight_19 : decode cX5_weight 19 = .ok (.goto 5, 3) := by decide +kernel
theorem dX5_weight_22 : decode cX5_weight 22 = .ok (.bipush 100, 2) := by decide +kernel
theorem dX5_weight_24 : decode cX5_weight 24 = .ok (.istore_n 1, 1) := by decide +kernel
theorem dX5_weight_25 : decode cX5_weight 25 = .ok (.iload_n 1, 1) := by decide +kernel
theorem dX5_weight_26 : decode cX5_weight 26 = .ok (.iload_n 0, 1) := by decide +kernel
theorem dX5_weight_27 : decode cX5_weight 27 = .ok (.iconst 3, 1) := by decide +kernel
theorem dX5_weight_28 : decode cX5_weight 28 = .ok (.irem, 1) := by decide +kernel
theorem dX5_weight_29 : decode cX5_weight 29 = .ok (.ifCond .ne 7, 3) := by decide +kernel
theorem dX5_weight_32 : decode cX5_weight 32 = .ok (.iconst 1, 1) := by decide +kernel
theorem dX5_weight_33 : decode cX5_weight 33 = .ok (.goto 15, 3) := by decide +kernel
theorem dX5_weight_36 : decode cX5_weight 36 = .ok (.iload_n 0, 1) := by decide +kernel
theorem dX5_weight_37 : decode cX5_weight 37 = .ok (.iconst 3, 1) := by decide +kernel
theorem dX5_weight_38 : decode cX5_weight 38 = .ok (.irem, 1) := by decide +kernel
theorem dX5_weight_39 : decode cX5_weight 39 = .ok (.iconst 1, 1) := by decide +kernel
theorem dX5_weight_40 : decode cX5_weight 40 = .ok (.if_icmp .ne 7, 3) := by decide +kernel
theorem dX5_weight_43 : decode cX5_weight 43 = .ok (.iconst 2, 1) := by decide +kernel
theorem dX5_weight_44 : decode cX5_weight 44 = .ok (.goto 4, 3) := by decide +kernel
theorem dX5_weight_47 : decode cX5_weight 47 = .ok (.iconst 5, 1) := by decide +kernel
theorem dX5_weight_48 : decode cX5_weight 48 = .ok (.imul, 1) := by decide +kernel
theorem dX5_weight_49 : decode cX5_weight 49 = .ok (.ireturn, 1) := by decide +kernel
theorem dX5_where_0 : decode cX5_where 0 = .ok (.iload_n 0, 1) := by decide +kernel
theorem dX5_where_1 : decode cX5_where 1 = .ok (.ifCond .ne 7, 3) := by decide +kernel
theorem dX5_where_4 : decode cX5_where 4 = .ok (.iconst 0, 1) := by decide +kernel
theorem dX5_where_5 : decode cX5_where 5 = .ok (.goto 24, 3) := by decide +kernel
theorem dX5_where_8 : decode cX5_where 8 = .ok (.iload_n 0, 1) := by decide +kernel
theorem dX5_where_9 : decode cX5_where 9 = .ok (.iconst 1, 1) := by decide +kernel
theorem dX5_where_10 : decode cX5_where 10 = .ok (.if_icmp .ne 7, 3) := by decide +kernel
theorem dX5_where_13 : decode cX5_where 13 = .ok (.iconst 3, 1) := by decide +kernel
theorem dX5_where_14 : decode cX5_where 14 = .ok (.goto 15, 3) := by decide +kernel
theorem dX5_where_17 : decode cX5_where 17 = .ok (.iload_n 0, 1) := by decide +kernel
theorem dX5_where_18 : decode cX5_where 18 = .ok (.iconst 2, 1) := by decide +kernel
theorem dX5_where_19 : decode cX5_where 19 = .ok (.if_icmp .ne 8, 3) := by decide +kernel
theorem dX5_where_22 : decode cX5_where 22 = .ok (.bipush 7, 2) := by decide +kernel
theorem dX5_where_24 : decode cX5_where 24 = .ok (.goto 5, 3) := by decide +kernel
theorem dX5_where_27 : decode cX5_where 27 = .ok (.bipush 12, 2) := by decide +kernel
theorem dX5_where_29 : decode cX5_where 29 = .ok (.ireturn, 1) := by decide +kernel
theorem dX5_pay_0 : decode cX5_pay 0 = .ok (.iconst 2, 1) := by decide +kernel
theorem dX5_pay_1 : decode cX5_pay 1 = .ok (.iconst 3, 1) := by decide +kernel
theorem dX5_pay_2 : decode cX5_pay 2 = .ok (.iload_n 1, 1) := by decide +kernel
theorem dX5_pay_3 : decode cX5_pay 3 = .ok (.imul, 1) := by decide +kernel
theorem dX5_pay_4 : decode cX5_pay 4 = .ok (.iconst 5, 1) := by decide +kernel
theorem dX5_pay_5 : decode cX5_pay 5 = .ok (.iload_n 0, 1) := by decide +kernel
theorem dX5_pay_6 : decode cX5_pay 6 = .ok (.imul, 1) := by decide +kernel
theorem dX5_pay_7 : decode cX5_pay 7 = .ok (.iadd, 1) := by decide +kernel
theorem dX5_pay_8 : decode cX5_pay 8 = .ok (.bipush 7, 2) := by decide +kernel
theorem dX5_pay_10 : decode cX5_pay 10 = .ok (.irem, 1) := by decide +kernel
theorem dX5_pay_11 : decode cX5_pay 11 = .ok (.iadd, 1) := by decide +kernel
theorem dX5_pay_12 : decode cX5_pay 12 = .ok (.ireturn, 1) := by decide +kernel
theorem dX5_shortBy_0 : decode cX5_shortBy 0 = .ok (.aload_n 0, 1) := by decide +kernel
theorem dX5_shortBy_1 : decode cX5_shortBy 1 = .ok (.getfield 9, 3) := by decide +kernel
theorem dX5_shortBy_4 : decode cX5_shortBy 4 = .ok (.bipush 14, 2) := by decide +kernel
theorem dX5_shortBy_6 : decode cX5_shortBy 6 = .ok (.iload_n 1, 1) := by decide +kernel
theorem dX5_shortBy_7 : decode cX5_shortBy 7 = .ok (.iadd, 1) := by decide +kernel
theorem dX5_shortBy_8 : decode cX5_shortBy 8 = .ok (.iaload, 1) := by decide +kernel
theorem dX5_shortBy_9 : decode cX5_shortBy 9 = .ok (.bipush 8, 2) := by decide +kernel
theorem dX5_shortBy_11 : decode cX5_shortBy 11 = .ok (.idiv, 1) := by decide +kernel
theorem dX5_shortBy_12 : decode cX5_shortBy 12 = .ok (.iload_n 1, 1) := by decide +kernel
theorem dX5_shortBy_13 : decode cX5_shortBy 13 = .ok (.invokestatic 64, 3) := by decide +kernel
theorem dX5_shortBy_16 : decode cX5_shortBy 16 = .ok (.bipush 10, 2) := by decide +kernel
theorem dX5_shortBy_18 : decode cX5_shortBy 18 = .ok (.idiv, 1) := by decide +kernel
theorem dX5_shortBy_19 : decode cX5_shortBy 19 = .ok (.invokestatic 67, 3) := by decide +kernel
theorem dX5_shortBy_22 : decode cX5_shortBy 22 = .ok (.ireturn, 1) := by decide +kernel
theorem dX5_isJar_0 : decode cX5_isJar 0 = .ok (.iload_n 1, 1) := by decide +kernel
theorem dX5_isJar_1 : decode cX5_isJar 1 = .ok (.iconst 0, 1) := by decide +kernel
theorem dX5_isJar_2 : decode cX5_isJar 2 = .ok (.aload_n 0, 1) := by decide +kernel
theorem dX5_isJar_3 : decode cX5_isJar 3 = .ok (.getfield 9, 3) := by decide +kernel
theorem dX5_isJar_6 : decode cX5_isJar 6 = .ok (.iconst 4, 1) := by decide +kernel
theorem dX5_isJar_7 : decode cX5_isJar 7 = .ok (.iaload, 1) := by decide +kernel
theorem dX5_isJar_8 : decode cX5_isJar 8 = .ok (.iconst 1, 1) := by decide +kernel
theorem dX5_isJar_9 : decode cX5_isJar 9 = .ok (.isub, 1) := by decide +kernel
theorem dX5_isJar_10 : decode cX5_isJar 10 = .ok (.invokestatic 73, 3) := by decide +kernel
theorem dX5_isJar_13 : decode cX5_isJar 13 = .ok (.ireturn, 1) := by decide +kernel
theorem dX5_isBag_0 : decode cX5_isBag 0 = .ok (.iload_n 1, 1) := by decide +kernel
theorem dX5_isBag_1 : decode cX5_isBag 1 = .ok (.iconst 0, 1) := by decide +kernel
theorem dX5_isBag_2 : decode cX5_isBag 2 = .ok (.aload_n 0, 1) := by decide +kernel
theorem dX5_isBag_3 : decode cX5_isBag 3 = .ok (.getfield 9, 3) := by decide +kernel
theorem dX5_isBag_6 : decode cX5_isBag 6 = .ok (.iconst 5, 1) := by decide +kernel
theorem dX5_isBag_7 : decode cX5_isBag 7 = .ok (.iaload, 1) := by decide +kernel
theorem dX5_isBag_8 : decode cX5_isBag 8 = .ok (.iconst 1, 1) := by decide +kernel
theorem dX5_isBag_9 : decode cX5_isBag 9 = .ok (.isub, 1) := by decide +kernel
theorem dX5_isBag_10 : decode cX5_isBag 10 = .ok (.invokestatic 73, 3) := by decide +kernel
theorem dX5_isBag_13 : decode cX5_isBag 13 = .ok (.ireturn, 1) := by decide +kernel
theorem dX5_isMarket_0 : decode cX5_isMarket 0 = .ok (.iload_n 0, 1) := by decide +kernel
theorem dX5_isMarket_1 : decode cX5_isMarket 1 = .ok (.iconst 0, 1) := by decide +kernel
theorem dX5_isMarket_2 : decode cX5_isMarket 2 = .ok (.iconst 3, 1) := by decide +kernel
theorem dX5_isMarket_3 : decode cX5_isMarket 3 = .ok (.invokestatic 73, 3) := by decide +kernel
theorem dX5_isMarket_6 : decode cX5_isMarket 6 = .ok (.ireturn, 1) := by decide +kernel
theorem dX5_isWeight_0 : decode cX5_isWeight 0 = .ok (.iload_n 0, 1) := by decide +kernel
theorem dX5_isWeight_1 : decode cX5_isWeight 1 = .ok (.iconst 0, 1) := by decide +kernel
theorem dX5_isWeight_2 : decode cX5_isWeight 2 = .ok (.bipush 7, 2) := by decide +kernel
theorem dX5_isWeight_4 : decode cX5_isWeight 4 = .ok (.invokestatic 73, 3) := by decide +kernel
theorem dX5_isWeight_7 : decode cX5_isWeight 7 = .ok (.ireturn, 1) := by decide +kernel
theorem dX5_of_0 : decode cX5_of 0 = .ok (.aload_n 0, 1) := by decide +kernel
theorem dX5_of_1 : decode cX5_of 1 = .ok (.getfield 9, 3) := by decide +kernel
theorem dX5_of_4 : decode cX5_of 4 = .ok (.bipush 34, 2) := by decide +kernel
theorem dX5_of_6 : decode cX5_of 6 = .ok (.iconst 5, 1) := by decide +kernel
theorem dX5_of_7 : decode cX5_of 7 = .ok (.iload_n 1, 1) := by decide +kernel
theorem dX5_of_8 : decode cX5_of 8 = .ok (.imul, 1) := by decide +kernel
theorem dX5_of_9 : decode cX5_of 9 = .ok (.iadd, 1) := by decide +kernel
theorem dX5_of_10 : decode cX5_of 10 = .ok (.iload_n 2, 1) := by decide +kernel
theorem dX5_of_11 : decode cX5_of 11 = .ok (.iadd, 1) := by decide +kernel
theorem dX5_of_12 : decode cX5_of 12 = .ok (.iaload, 1) := by decide +kernel
theorem dX5_of_13 : decode cX5_of 13 = .ok (.ireturn, 1) := by decide +kernel
theorem dX5_sets_0 : decode cX5_sets 0 = .ok (.aload_n 0, 1) := by decide +kernel
theorem dX5_sets_1 : decode cX5_sets 1 = .ok (.getfield 9, 3) := by decide +kernel
theorem dX5_sets_4 : decode cX5_sets 4 = .ok (.bipush 34, 2) := by decide +kernel
theorem dX5_sets_6 : decode cX5_sets 6 = .ok (.iconst 5, 1) := by decide +kernel
theorem dX5_sets_7 : decode cX5_sets 7 = .ok (.iload_n 1, 1) := by decide +kernel
theorem dX5_sets_8 : decode cX5_sets 8 = .ok (.imul, 1) := by decide +kernel
theorem dX5_sets_9 : decode cX5_sets 9 = .ok (.iadd, 1) := by decide +kernel
theorem dX5_sets_10 : decode cX5_sets 10 = .ok (.iload_n 2, 1) := by decide +kernel
theorem dX5_sets_11 : decode cX5_sets 11 = .ok (.iadd, 1) := by decide +kernel
theorem dX5_sets_12 : decode cX5_sets 12 = .ok (.iload_n 3, 1) := by decide +kernel
theorem dX5_sets_13 : decode cX5_sets 13 = .ok (.iastore, 1) := by decide +kernel
theorem dX5_sets_14 : decode cX5_sets 14 = .ok (.return_, 1) := by decide +kernel
theorem dX5_load_0 : decode cX5_load 0 = .ok (.aload_n 0, 1) := by decide +kernel
theorem dX5_load_1 : decode cX5_load 1 = .ok (.iload_n 1, 1) := by decide +kernel
theorem dX5_load_2 : decode cX5_load 2 = .ok (.iconst 0, 1) := by decide +kernel
theorem dX5_load_3 : decode cX5_load 3 = .ok (.invokevirtual 77, 3) := by decide +kernel
theorem dX5_load_6 : decode cX5_load 6 = .ok (.aload_n 0, 1) := by decide +kernel
theorem dX5_load_7 : decode cX5_load 7 = .ok (.iload_n 1, 1) := by decide +kernel
theorem dX5_load_8 : decode cX5_load 8 = .ok (.iconst 1, 1) := by decide +kernel
theorem dX5_load_9 : decode cX5_load 9 = .ok (.invokevirtual 77, 3) := by decide +kernel
theorem dX5_load_12 : decode cX5_load 12 = .ok (.iadd, 1) := by decide +kernel
theorem dX5_load_13 : decode cX5_load 13 = .ok (.aload_n 0, 1) := by decide +kernel
theorem dX5_load_14 : decode cX5_load 14 = .ok (.iload_n 1, 1) := by decide +kernel
theorem dX5_load_15 : decode cX5_load 15 = .ok (.iconst 3, 1) := by decide +kernel
theorem dX5_load_16 : decode cX5_load 16 = .ok (.invokevirtual 77, 3) := by decide +kernel
theorem dX5_load_19 : decode cX5_load 19 = .ok (.iadd, 1) := by decide +kernel
theorem dX5_load_20 : decode cX5_load 20 = .ok (.aload_n 0, 1) := by decide +kernel
theorem dX5_load_21 : decode cX5_load 21 = .ok (.getfield 9, 3) := by decide +kernel
theorem dX5_load_24 : decode cX5_load 24 = .ok (.iconst 3, 1) := by decide +kernel
theorem dX5_load_25 : decode cX5_load 25 = .ok (.iaload, 1) := by decide +kernel
theorem dX5_load_26 : decode cX5_load 26 = .ok (.iadd, 1) := by decide +kernel
theorem dX5_load_27 : decode cX5_load 27 = .ok (.ireturn, 1) := by decide +kernel
theorem dX5_isSworn_0 : decode cX5_isSworn 0 = .ok (.aload_n 0, 1) := by decide +kernel
theorem dX5_isSworn_1 : decode cX5_isSworn 1 = .ok (.getfield 9, 3) := by decide +kernel
theorem dX5_isSworn_4 : decode cX5_isSworn 4 = .ok (.bipush 10, 2) := by decide +kernel
theorem dX5_isSworn_6 : decode cX5_isSworn 6 = .ok (.iload_n 1, 1) := by decide +kernel
theorem dX5_isSworn_7 : decode cX5_isSworn 7 = .ok (.iadd, 1) := by decide +kernel
theorem dX5_isSworn_8 : decode cX5_isSworn 8 = .ok (.iaload, 1) := by decide +kernel
theorem dX5_isSworn_9 : decode cX5_isSworn 9 = .ok (.iconst 1, 1) := by decide +kernel
theorem dX5_isSworn_10 : decode cX5_isSworn 10 = .ok (.isub, 1) := by decide +kernel
theorem dX5_isSworn_11 : decode cX5_isSworn 11 = .ok (.aload_n 0, 1) := by decide +kernel
theorem dX5_isSworn_12 : decode cX5_isSworn 12 = .ok (.getfield 9, 3) := by decide +kernel
theorem dX5_isSworn_15 : decode cX5_isSworn 15 = .ok (.iconst 0, 1) := by decide +kernel
theorem dX5_isSworn_16 : decode cX5_isSworn 16 = .ok (.iaload, 1) := by decide +kernel
theorem dX5_isSworn_17 : decode cX5_isSworn 17 = .ok (.if_icmp .lt 7, 3) := by decide +kernel
theorem dX5_isSworn_20 : decode cX5_isSworn 20 = .ok (.iconst 1, 1) := by decide +kernel
theorem dX5_isSworn_21 : decode cX5_isSworn 21 = .ok (.goto 4, 3) := by decide +kernel
theorem dX5_isSworn_24 : decode cX5_isSworn 24 = .ok (.iconst 0, 1) := by decide +kernel
theorem dX5_isSworn_25 : decode cX5_isSworn 25 = .ok (.ireturn, 1) := by decide +kernel
theorem dX5_scales_0 : decode cX5_scales 0 = .ok (.iconst 0, 1) := by decide +kernel
theorem dX5_scales_1 : decode cX5_scales 1 = .ok (.istore_n 2, 1) := by decide +kernel
theorem dX5_scales_2 : decode cX5_scales 2 = .ok (.aload_n 0, 1) := by decide +kernel
theorem dX5_scales_3 : decode cX5_scales 3 = .ok (.iconst 0, 1) := by decide +kernel
theorem dX5_scales_4 : decode cX5_scales 4 = .ok (.putfield 80, 3) := by decide +kernel
theorem dX5_scales_7 : decode cX5_scales 7 = .ok (.aload_n 0, 1) := by decide +kernel
theorem dX5_scales_8 : decode cX5_scales 8 = .ok (.iconst 0, 1) := by decide +kernel
theorem dX5_scales_9 : decode cX5_scales 9 = .ok (.putfield 83, 3) := by decide +kernel
theorem dX5_scales_12 : decode cX5_scales 12 = .ok (.bipush 7, 2) := by decide +kernel
theorem dX5_scales_14 : decode cX5_scales 14 = .ok (.istore_n 3, 1) := by decide +kernel
theorem dX5_scales_15 : decode cX5_scales 15 = .ok (.iload_n 3, 1) := by decide +kernel
theorem dX5_scales_16 : decode cX5_scales 16 = .ok (.ifCond .lt 65, 3) := by decide +kernel
theorem dX5_scales_19 : decode cX5_scales 19 = .ok (.iload_n 3, 1) := by decide +kernel
theorem dX5_scales_20 : decode cX5_scales 20 = .ok (.invokestatic 64, 3) := by decide +kernel
theorem dX5_scales_23 : decode cX5_scales 23 = .ok (.aload_n 0, 1) := by decide +kernel
theorem dX5_scales_24 : decode cX5_scales 24 = .ok (.iload_n 3, 1) := by decide +kernel
theorem dX5_scales_25 : decode cX5_scales 25 = .ok (.invokevirtual 86, 3) := by decide +kernel
theorem dX5_scales_28 : decode cX5_scales 28 = .ok (.isub, 1) := by decide +kernel
theorem dX5_scales_29 : decode cX5_scales 29 = .ok (.istore 4, 2) := by decide +kernel
theorem dX5_scales_31 : decode cX5_scales 31 = .ok (.aload_n 0, 1) := by decide +kernel
theorem dX5_scales_32 : decode cX5_scales 32 = .ok (.getfield 83, 3) := by decide +kernel
theorem dX5_scales_35 : decode cX5_scales 35 = .ok (.iload 4, 2) := by decide +kernel
theorem dX5_scales_37 : decode cX5_scales 37 = .ok (.iadd, 1) := by decide +kernel
theorem dX5_scales_38 : decode cX5_scales 38 = .ok (.iload_n 1, 1) := by decide +kernel
theorem dX5_scales_39 : decode cX5_scales 39 = .ok (.if_icmp .le 6, 3) := by decide +kernel
theorem dX5_scales_42 : decode cX5_scales 42 = .ok (.goto 33, 3) := by decide +kernel
theorem dX5_scales_45 : decode cX5_scales 45 = .ok (.aload_n 0, 1) := by decide +kernel
theorem dX5_scales_46 : decode cX5_scales 46 = .ok (.dup, 1) := by decide +kernel
theorem dX5_scales_47 : decode cX5_scales 47 = .ok (.getfield 83, 3) := by decide +kernel
theorem dX5_scales_50 : decode cX5_scales 50 = .ok (.iload 4, 2) := by decide +kernel
theorem dX5_scales_52 : decode cX5_scales 52 = .ok (.iadd, 1) := by decide +kernel
theorem dX5_scales_53 : decode cX5_scales 53 = .ok (.putfield 83, 3) := by decide +kernel
theorem dX5_scales_56 : decode cX5_scales 56 = .ok (.iload_n 2, 1) := by decide +kernel
theorem dX5_scales_57 : decode cX5_scales 57 = .ok (.iload_n 3, 1) := by decide +kernel
theorem dX5_scales_58 : decode cX5_scales 58 = .ok (.invokestatic 64, 3) := by decide +kernel
theorem dX5_scales_61 : decode cX5_scales 61 = .ok (.iadd, 1) := by decide +kernel
theorem dX5_scales_62 : decode cX5_scales 62 = .ok (.istore_n 2, 1) := by decide +kernel
theorem dX5_scales_63 : decode cX5_scales 63 = .ok (.aload_n 0, 1) := by decide +kernel
theorem dX5_scales_64 : decode cX5_scales 64 = .ok (.dup, 1) := by decide +kernel
theorem dX5_scales_65 : decode cX5_scales 65 = .ok (.getfield 80, 3) := by decide +kernel
theorem dX5_scales_68 : decode cX5_scales 68 = .ok (.iconst 1, 1) := by decide +kernel
theorem dX5_scales_69 : decode cX5_scales 69 = .ok (.iload_n 3, 1) := by decide +kernel
theorem dX5_scales_70 : decode cX5_scales 70 = .ok (.ishl, 1) := by decide +kernel
theorem dX5_scales_71 : decode cX5_scales 71 = .ok (.ior, 1) := by decide +kernel
theorem dX5_scales_72 : decode cX5_scales 72 = .ok (.putfield 80, 3) := by decide +kernel
theorem dX5_scales_75 : decode cX5_scales 75 = .ok (.iinc 3 (-1), 3) := by decide +kernel
theorem dX5_scales_78 : decode cX5_scales 78 = .ok (.goto (-63), 3) := by decide +kernel
theorem dX5_scales_81 : decode cX5_scales 81 = .ok (.iload_n 2, 1) := by decide +kernel
theorem dX5_scales_82 : decode cX5_scales 82 = .ok (.ireturn, 1) := by decide +kernel
theorem dX5_weighs_0 : decode cX5_weighs 0 = .ok (.aload_n 0, 1) := by decide +kernel
theorem dX5_weighs_1 : decode cX5_weighs 1 = .ok (.aload_n 0, 1) := by decide +kernel
theorem dX5_weighs_2 : decode cX5_weighs 2 = .ok (.iload_n 1, 1) := by decide +kernel
theorem dX5_weighs_3 : decode cX5_weighs 3 = .ok (.invokevirtual 89, 3) := by decide +kernel
theorem dX5_weighs_6 : decode cX5_weighs 6 = .ok (.invokevirtual 92, 3) := by decide +kernel
theorem dX5_weighs_9 : decode cX5_weighs 9 = .ok (.istore_n 2, 1) := by decide +kernel
theorem dX5_weighs_10 : decode cX5_weighs 10 = .ok (.iconst 0, 1) := by decide +kernel
theorem dX5_weighs_11 : decode cX5_weighs 11 = .ok (.istore_n 3, 1) := by decide +kernel
theorem dX5_weighs_12 : decode cX5_weighs 12 = .ok (.iload_n 3, 1) := by decide +kernel
theorem dX5_weighs_13 : decode cX5_weighs 13 = .ok (.bipush 8, 2) := by decide +kernel
theorem dX5_weighs_15 : decode cX5_weighs 15 = .ok (.if_icmp .ge 29, 3) := by decide +kernel
theorem dX5_weighs_18 : decode cX5_weighs 18 = .ok (.aload_n 0, 1) := by decide +kernel
theorem dX5_weighs_19 : decode cX5_weighs 19 = .ok (.getfield 9, 3) := by decide +kernel
theorem dX5_weighs_22 : decode cX5_weighs 22 = .ok (.bipush 14, 2) := by decide +kernel
theorem dX5_weighs_24 : decode cX5_weighs 24 = .ok (.iload_n 3, 1) := by decide +kernel
theorem dX5_weighs_25 : decode cX5_weighs 25 = .ok (.iadd, 1) := by decide +kernel
theorem dX5_weighs_26 : decode cX5_weighs 26 = .ok (.dup2, 1) := by decide +kernel
theorem dX5_weighs_27 : decode cX5_weighs 27 = .ok (.iaload, 1) := by decide +kernel
theorem dX5_weighs_28 : decode cX5_weighs 28 = .ok (.aload_n 0, 1) := by decide +kernel
theorem dX5_weighs_29 : decode cX5_weighs 29 = .ok (.getfield 80, 3) := by decide +kernel
theorem dX5_weighs_32 : decode cX5_weighs 32 = .ok (.iload_n 3, 1) := by decide +kernel
theorem dX5_weighs_33 : decode cX5_weighs 33 = .ok (.ishr, 1) := by decide +kernel
theorem dX5_weighs_34 : decode cX5_weighs 34 = .ok (.iconst 1, 1) := by decide +kernel
theorem dX5_weighs_35 : decode cX5_weighs 35 = .ok (.iand, 1) := by decide +kernel
theorem dX5_weighs_36 : decode cX5_weighs 36 = .ok (.iadd, 1) := by decide +kernel
theorem dX5_weighs_37 : decode cX5_weighs 37 = .ok (.iastore, 1) := by decide +kernel
theorem dX5_weighs_38 : decode cX5_weighs 38 = .ok (.iinc 3 1, 3) := by decide +kernel
theorem dX5_weighs_41 : decode cX5_weighs 41 = .ok (.goto (-29), 3) := by decide +kernel
theorem dX5_weighs_44 : decode cX5_weighs 44 = .ok (.aload_n 0, 1) := by decide +kernel
theorem dX5_weighs_45 : decode cX5_weighs 45 = .ok (.iload_n 1, 1) := by decide +kernel
theorem dX5_weighs_46 : decode cX5_weighs 46 = .ok (.iconst 4, 1) := by decide +kernel
theorem dX5_weighs_47 : decode cX5_weighs 47 = .ok (.aload_n 0, 1) := by decide +kernel
theorem dX5_weighs_48 : decode cX5_weighs 48 = .ok (.iload_n 1, 1) := by decide +kernel
theorem dX5_weighs_49 : decode cX5_weighs 49 = .ok (.iconst 4, 1) := by decide +kernel
theorem dX5_weighs_50 : decode cX5_weighs 50 = .ok (.invokevirtual 77, 3) := by decide +kernel
theorem dX5_weighs_53 : decode cX5_weighs 53 = .ok (.iconst 1, 1) := by decide +kernel
theorem dX5_weighs_54 : decode cX5_weighs 54 = .ok (.iadd, 1) := by decide +kernel
theorem dX5_weighs_55 : decode cX5_weighs 55 = .ok (.invokevirtual 95, 3) := by decide +kernel
theorem dX5_weighs_58 : decode cX5_weighs 58 = .ok (.iload_n 2, 1) := by decide +kernel
theorem dX5_weighs_59 : decode cX5_weighs 59 = .ok (.ireturn, 1) := by decide +kernel
theorem dX5_jar_0 : decode cX5_jar 0 = .ok (.aload_n 0, 1) := by decide +kernel
theorem dX5_jar_1 : decode cX5_jar 1 = .ok (.invokevirtual 99, 3) := by decide +kernel
theorem dX5_jar_4 : decode cX5_jar 4 = .ok (.iload_n 1, 1) := by decide +kernel
theorem dX5_jar_5 : decode cX5_jar 5 = .ok (.iconst 0, 1) := by decide +kernel
theorem dX5_jar_6 : decode cX5_jar 6 = .ok (.iconst 4, 1) := by decide +kernel
theorem dX5_jar_7 : decode cX5_jar 7 = .ok (.invokestatic 73, 3) := by decide +kernel
theorem dX5_jar_10 : decode cX5_jar 10 = .ok (.ifCond .eq 14, 3) := by decide +kernel
theorem dX5_jar_13 : decode cX5_jar 13 = .ok (.iload_n 2, 1) := by decide +kernel
theorem dX5_jar_14 : decode cX5_jar 14 = .ok (.iconst 0, 1) := by decide +kernel
theorem dX5_jar_15 : decode cX5_jar 15 = .ok (.sipush 900, 3) := by decide +kernel
theorem dX5_jar_18 : decode cX5_jar 18 = .ok (.invokestatic 73, 3) := by decide +kernel
theorem dX5_jar_21 : decode cX5_jar 21 = .ok (.ifCond .ne 14, 3) := by decide +kernel
theorem dX5_jar_24 : decode cX5_jar 24 = .ok (.aload_n 0, 1) := by decide +kernel
theorem dX5_jar_25 : decode cX5_jar 25 = .ok (.aload_n 0, 1) := by decide +kernel
theorem dX5_jar_26 : decode cX5_jar 26 = .ok (.iconst 1, 1) := by decide +kernel
theorem dX5_jar_27 : decode cX5_jar 27 = .ok (.iconst 0, 1) := by decide +kernel
theorem dX5_jar_28 : decode cX5_jar 28 = .ok (.invokevirtual 102, 3) := by decide +kernel
theorem dX5_jar_31 : decode cX5_jar 31 = .ok (.invokevirtual 106, 3) := by decide +kernel
theorem dX5_jar_34 : decode cX5_jar 34 = .ok (.ireturn, 1) := by decide +kernel
theorem dX5_jar_35 : decode cX5_jar 35 = .ok (.aload_n 0, 1) := by decide +kernel
theorem dX5_jar_36 : decode cX5_jar 36 = .ok (.getfield 9, 3) := by decide +kernel
theorem dX5_jar_39 : decode cX5_jar 39 = .ok (.iconst 4, 1) := by decide +kernel
theorem dX5_jar_40 : decode cX5_jar 40 = .ok (.iaload, 1) := by decide +kernel
theorem dX5_jar_41 : decode cX5_jar 41 = .ok (.istore_n 3, 1) := by decide +kernel
theorem dX5_jar_42 : decode cX5_jar 42 = .ok (.iload_n 3, 1) := by decide +kernel
theorem dX5_jar_43 : decode cX5_jar 43 = .ok (.bipush 6, 2) := by decide +kernel
theorem dX5_jar_45 : decode cX5_jar 45 = .ok (.if_icmp .ne 15, 3) := by decide +kernel
theorem dX5_jar_48 : decode cX5_jar 48 = .ok (.aload_n 0, 1) := by decide +kernel
theorem dX5_jar_49 : decode cX5_jar 49 = .ok (.aload_n 0, 1) := by decide +kernel
theorem dX5_jar_50 : decode cX5_jar 50 = .ok (.iconst 2, 1) := by decide +kernel
theorem dX5_jar_51 : decode cX5_jar 51 = .ok (.bipush 6, 2) := by decide +kernel
theorem dX5_jar_53 : decode cX5_jar 53 = .ok (.invokevirtual 102, 3) := by decide +kernel
theorem dX5_jar_56 : decode cX5_jar 56 = .ok (.invokevirtual 106, 3) := by decide +kernel
theorem dX5_jar_59 : decode cX5_jar 59 = .ok (.ireturn, 1) := by decide +kernel
theorem dX5_jar_60 : decode cX5_jar 60 = .ok (.aload_n 0, 1) := by decide +kernel
theorem dX5_jar_61 : decode cX5_jar 61 = .ok (.getfield 9, 3) := by decide +kernel
theorem dX5_jar_64 : decode cX5_jar 64 = .ok (.iconst 4, 1) := by decide +kernel
theorem dX5_jar_65 : decode cX5_jar 65 = .ok (.dup2, 1) := by decide +kernel
theorem dX5_jar_66 : decode cX5_jar 66 = .ok (.iaload, 1) := by decide +kernel
theorem dX5_jar_67 : decode cX5_jar 67 = .ok (.iconst 1, 1) := by decide +kernel
theorem dX5_jar_68 : decode cX5_jar 68 = .ok (.iadd, 1) := by decide +kernel
theorem dX5_jar_69 : decode cX5_jar 69 = .ok (.iastore, 1) := by decide +kernel
theorem dX5_jar_70 : decode cX5_jar 70 = .ok (.aload_n 0, 1) := by decide +kernel
theorem dX5_jar_71 : decode cX5_jar 71 = .ok (.getfield 9, 3) := by decide +kernel
theorem dX5_jar_74 : decode cX5_jar 74 = .ok (.bipush 22, 2) := by decide +kernel
theorem dX5_jar_76 : decode cX5_jar 76 = .ok (.iconst 2, 1) := by decide +kernel
theorem dX5_jar_77 : decode cX5_jar 77 = .ok (.iload_n 3, 1) := by decide +kernel
theorem dX5_jar_78 : decode cX5_jar 78 = .ok (.imul, 1) := by decide +kernel
theorem dX5_jar_79 : decode cX5_jar 79 = .ok (.iadd, 1) := by decide +kernel
theorem dX5_jar_80 : decode cX5_jar 80 = .ok (.iload_n 1, 1) := by decide +kernel
theorem dX5_jar_81 : decode cX5_jar 81 = .ok (.iastore, 1) := by decide +kernel
theorem dX5_jar_82 : decode cX5_jar 82 = .ok (.aload_n 0, 1) := by decide +kernel
theorem dX5_jar_83 : decode cX5_jar 83 = .ok (.getfield 9, 3) := by decide +kernel
theorem dX5_jar_86 : decode cX5_jar 86 = .ok (.bipush 22, 2) := by decide +kernel
theorem dX5_jar_88 : decode cX5_jar 88 = .ok (.iconst 2, 1) := by decide +kernel
theorem dX5_jar_89 : decode cX5_jar 89 = .ok (.iload_n 3, 1) := by decide +kernel
theorem dX5_jar_90 : decode cX5_jar 90 = .ok (.imul, 1) := by decide +kernel
theorem dX5_jar_91 : decode cX5_jar 91 = .ok (.iadd, 1) := by decide +kernel
theorem dX5_jar_92 : decode cX5_jar 92 = .ok (.iconst 1, 1) := by decide +kernel
theorem dX5_jar_93 : decode cX5_jar 93 = .ok (.iadd, 1) := by decide +kernel
theorem dX5_jar_94 : decode cX5_jar 94 = .ok (.iload_n 2, 1) := by decide +kernel
theorem dX5_jar_95 : decode cX5_jar 95 = .ok (.iastore, 1) := by decide +kernel
theorem dX5_jar_96 : decode cX5_jar 96 = .ok (.aload_n 0, 1) := by decide +kernel
theorem dX5_jar_97 : decode cX5_jar 97 = .ok (.iload_n 3, 1) := by decide +kernel
theorem dX5_jar_98 : decode cX5_jar 98 = .ok (.invokevirtual 57, 3) := by decide +kernel
theorem dX5_jar_101 : decode cX5_jar 101 = .ok (.ireturn, 1) := by decide +kernel
theorem dX5_bag_0 : decode cX5_bag 0 = .ok (.aload_n 0, 1) := by decide +kernel
theorem dX5_bag_1 : decode cX5_bag 1 = .ok (.invokevirtual 99, 3) := by decide +kernel
theorem dX5_bag_4 : decode cX5_bag 4 = .ok (.iload_n 1, 1) := by decide +kernel
theorem dX5_bag_5 : decode cX5_bag 5 = .ok (.iconst 5, 1) := by decide +kernel
theorem dX5_bag_6 : decode cX5_bag 6 = .ok (.bipush 50, 2) := by decide +kernel
theorem dX5_bag_8 : decode cX5_bag 8 = .ok (.invokestatic 73, 3) := by decide +kernel
theorem dX5_bag_11 : decode cX5_bag 11 = .ok (.ifCond .ne 14, 3) := by decide +kernel
theorem dX5_bag_14 : decode cX5_bag 14 = .ok (.aload_n 0, 1) := by decide +kernel
theorem dX5_bag_15 : decode cX5_bag 15 = .ok (.aload_n 0, 1) := by decide +kernel
theorem dX5_bag_16 : decode cX5_bag 16 = .ok (.iconst 1, 1) := by decide +kernel
theorem dX5_bag_17 : decode cX5_bag 17 = .ok (.iconst 0, 1) := by decide +kernel
theorem dX5_bag_18 : decode cX5_bag 18 = .ok (.invokevirtual 102, 3) := by decide +kernel
theorem dX5_bag_21 : decode cX5_bag 21 = .ok (.invokevirtual 106, 3) := by decide +kernel
theorem dX5_bag_24 : decode cX5_bag 24 = .ok (.ireturn, 1) := by decide +kernel
theorem dX5_bag_25 : decode cX5_bag 25 = .ok (.aload_n 0, 1) := by decide +kernel
theorem dX5_bag_26 : decode cX5_bag 26 = .ok (.getfield 9, 3) := by decide +kernel
theorem dX5_bag_29 : decode cX5_bag 29 = .ok (.iconst 5, 1) := by decide +kernel
theorem dX5_bag_30 : decode cX5_bag 30 = .ok (.iaload, 1) := by decide +kernel
theorem dX5_bag_31 : decode cX5_bag 31 = .ok (.istore_n 2, 1) := by decide +kernel
theorem dX5_bag_32 : decode cX5_bag 32 = .ok (.iload_n 2, 1) := by decide +kernel
theorem dX5_bag_33 : decode cX5_bag 33 = .ok (.bipush 6, 2) := by decide +kernel
theorem dX5_bag_35 : decode cX5_bag 35 = .ok (.if_icmp .ne 15, 3) := by decide +kernel
theorem dX5_bag_38 : decode cX5_bag 38 = .ok (.aload_n 0, 1) := by decide +kernel
theorem dX5_bag_39 : decode cX5_bag 39 = .ok (.aload_n 0, 1) := by decide +kernel
theorem dX5_bag_40 : decode cX5_bag 40 = .ok (.iconst 2, 1) := by decide +kernel
theorem dX5_bag_41 : decode cX5_bag 41 = .ok (.bipush 6, 2) := by decide +kernel
theorem dX5_bag_43 : decode cX5_bag 43 = .ok (.invokevirtual 102, 3) := by decide +kernel
theorem dX5_bag_46 : decode cX5_bag 46 = .ok (.invokevirtual 106, 3) := by decide +kernel
theorem dX5_bag_49 : decode cX5_bag 49 = .ok (.ireturn, 1) := by decide +kernel
theorem dX5_bag_50 : decode cX5_bag 50 = .ok (.aload_n 0, 1) := by decide +kernel
theorem dX5_bag_51 : decode cX5_bag 51 = .ok (.getfield 9, 3) := by decide +kernel
theorem dX5_bag_54 : decode cX5_bag 54 = .ok (.iconst 5, 1) := by decide +kernel
theorem dX5_bag_55 : decode cX5_bag 55 = .ok (.dup2, 1) := by decide +kernel
theorem dX5_bag_56 : decode cX5_bag 56 = .ok (.iaload, 1) := by decide +kernel
theorem dX5_bag_57 : decode cX5_bag 57 = .ok (.iconst 1, 1) := by decide +kernel
theorem dX5_bag_58 : decode cX5_bag 58 = .ok (.iadd, 1) := by decide +kernel
theorem dX5_bag_59 : decode cX5_bag 59 = .ok (.iastore, 1) := by decide +kernel
theorem dX5_bag_60 : decode cX5_bag 60 = .ok (.iconst 0, 1) := by decide +kernel
theorem dX5_bag_61 : decode cX5_bag 61 = .ok (.istore_n 3, 1) := by decide +kernel
theorem dX5_bag_62 : decode cX5_bag 62 = .ok (.iload_n 3, 1) := by decide +kernel
theorem dX5_bag_63 : decode cX5_bag 63 = .ok (.iconst 5, 1) := by decide +kernel
theorem dX5_bag_64 : decode cX5_bag 64 = .ok (.if_icmp .ge 16, 3) := by decide +kernel
theorem dX5_bag_67 : decode cX5_bag 67 = .ok (.aload_n 0, 1) := by decide +kernel
theorem dX5_bag_68 : decode cX5_bag 68 = .ok (.iload_n 2, 1) := by decide +kernel
theorem dX5_bag_69 : decode cX5_bag 69 = .ok (.iload_n 3, 1) := by decide +kernel
theorem dX5_bag_70 : decode cX5_bag 70 = .ok (.iconst 0, 1) := by decide +kernel
theorem dX5_bag_71 : decode cX5_bag 71 = .ok (.invokevirtual 95, 3) := by decide +kernel
theorem dX5_bag_74 : decode cX5_bag 74 = .ok (.iinc 3 1, 3) := by decide +kernel
theorem dX5_bag_77 : decode cX5_bag 77 = .ok (.goto (-15), 3) := by decide +kernel
theorem dX5_bag_80 : decode cX5_bag 80 = .ok (.aload_n 0, 1) := by decide +kernel
theorem dX5_bag_81 : decode cX5_bag 81 = .ok (.iload_n 2, 1) := by decide +kernel
theorem dX5_bag_82 : decode cX5_bag 82 = .ok (.iconst 0, 1) := by decide +kernel
theorem dX5_bag_83 : decode cX5_bag 83 = .ok (.iload_n 1, 1) := by decide +kernel
theorem dX5_bag_84 : decode cX5_bag 84 = .ok (.invokevirtual 95, 3) := by decide +kernel
theorem dX5_bag_87 : decode cX5_bag 87 = .ok (.aload_n 0, 1) := by decide +kernel
theorem dX5_bag_88 : decode cX5_bag 88 = .ok (.iload_n 2, 1) := by decide +kernel
theorem dX5_bag_89 : decode cX5_bag 89 = .ok (.invokevirtual 57, 3) := by decide +kernel
theorem dX5_bag_92 : decode cX5_bag 92 = .ok (.ireturn, 1) := by decide +kernel
theorem dX5_fills_0 : decode cX5_fills 0 = .ok (.aload_n 0, 1) := by decide +kernel
theorem dX5_fills_1 : decode cX5_fills 1 = .ok (.iload_n 1, 1) := by decide +kernel
theorem dX5_fills_2 : decode cX5_fills 2 = .ok (.invokevirtual 110, 3) := by decide +kernel
theorem dX5_fills_5 : decode cX5_fills 5 = .ok (.ifCond .ne 10, 3) := by decide +kernel
theorem dX5_fills_8 : decode cX5_fills 8 = .ok (.aload_n 0, 1) := by decide +kernel
theorem dX5_fills_9 : decode cX5_fills 9 = .ok (.iconst 3, 1) := by decide +kernel
theorem dX5_fills_10 : decode cX5_fills 10 = .ok (.iload_n 1, 1) := by decide +kernel
theorem dX5_fills_11 : decode cX5_fills 11 = .ok (.invokevirtual 102, 3) := by decide +kernel
theorem dX5_fills_14 : decode cX5_fills 14 = .ok (.ireturn, 1) := by decide +kernel
theorem dX5_fills_15 : decode cX5_fills 15 = .ok (.aload_n 0, 1) := by decide +kernel
theorem dX5_fills_16 : decode cX5_fills 16 = .ok (.iload_n 2, 1) := by decide +kernel
theorem dX5_fills_17 : decode cX5_fills 17 = .ok (.invokevirtual 114, 3) := by decide +kernel
theorem dX5_fills_20 : decode cX5_fills 20 = .ok (.ifCond .ne 10, 3) := by decide +kernel
theorem dX5_fills_23 : decode cX5_fills 23 = .ok (.aload_n 0, 1) := by decide +kernel
theorem dX5_fills_24 : decode cX5_fills 24 = .ok (.iconst 3, 1) := by decide +kernel
theorem dX5_fills_25 : decode cX5_fills 25 = .ok (.iload_n 2, 1) := by decide +kernel
theorem dX5_fills_26 : decode cX5_fills 26 = .ok (.invokevirtual 102, 3) := by decide +kernel
theorem dX5_fills_29 : decode cX5_fills 29 = .ok (.ireturn, 1) := by decide +kernel
theorem dX5_fills_30 : decode cX5_fills 30 = .ok (.iload_n 3, 1) := by decide +kernel
theorem dX5_fills_31 : decode cX5_fills 31 = .ok (.iconst 1, 1) := by decide +kernel
theorem dX5_fills_32 : decode cX5_fills 32 = .ok (.sipush 400, 3) := by decide +kernel
theorem dX5_fills_35 : decode cX5_fills 35 = .ok (.invokestatic 73, 3) := by decide +kernel
theorem dX5_fills_38 : decode cX5_fills 38 = .ok (.ifCond .ne 10, 3) := by decide +kernel
theorem dX5_fills_41 : decode cX5_fills 41 = .ok (.aload_n 0, 1) := by decide +kernel
theorem dX5_fills_42 : decode cX5_fills 42 = .ok (.iconst 1, 1) := by decide +kernel
theorem dX5_fills_43 : decode cX5_fills 43 = .ok (.iconst 0, 1) := by decide +kernel
theorem dX5_fills_44 : decode cX5_fills 44 = .ok (.invokevirtual 102, 3) := by decide +kernel
theorem dX5_fills_47 : decode cX5_fills 47 = .ok (.ireturn, 1) := by decide +kernel
theorem dX5_fills_48 : decode cX5_fills 48 = .ok (.bipush 22, 2) := by decide +kernel
theorem dX5_fills_50 : decode cX5_fills 50 = .ok (.iconst 2, 1) := by decide +kernel
theorem dX5_fills_51 : decode cX5_fills 51 = .ok (.iload_n 2, 1) := by decide +kernel
theorem dX5_fills_52 : decode cX5_fills 52 = .ok (.imul, 1) := by decide +kernel
theorem dX5_fills_53 : decode cX5_fills 53 = .ok (.iadd, 1) := by decide +kernel
theorem dX5_fills_54 : decode cX5_fills 54 = .ok (.istore 4, 2) := by decide +kernel
theorem dX5_fills_56 : decode cX5_fills 56 = .ok (.aload_n 0, 1) := by decide +kernel
theorem dX5_fills_57 : decode cX5_fills 57 = .ok (.iload_n 1, 1) := by decide +kernel
theorem dX5_fills_58 : decode cX5_fills 58 = .ok (.iconst 3, 1) := by decide +kernel
theorem dX5_fills_59 : decode cX5_fills 59 = .ok (.invokevirtual 77, 3) := by decide +kernel
theorem dX5_fills_62 : decode cX5_fills 62 = .ok (.ifCond .le 35, 3) := by decide +kernel
theorem dX5_fills_65 : decode cX5_fills 65 = .ok (.aload_n 0, 1) := by decide +kernel
theorem dX5_fills_66 : decode cX5_fills 66 = .ok (.iload_n 1, 1) := by decide +kernel
theorem dX5_fills_67 : decode cX5_fills 67 = .ok (.iconst 2, 1) := by decide +kernel
theorem dX5_fills_68 : decode cX5_fills 68 = .ok (.invokevirtual 77, 3) := by decide +kernel
theorem dX5_fills_71 : decode cX5_fills 71 = .ok (.iconst 1, 1) := by decide +kernel
theorem dX5_fills_72 : decode cX5_fills 72 = .ok (.isub, 1) := by decide +kernel
theorem dX5_fills_73 : decode cX5_fills 73 = .ok (.aload_n 0, 1) := by decide +kernel
theorem dX5_fills_74 : decode cX5_fills 74 = .ok (.getfield 9, 3) := by decide +kernel
theorem dX5_fills_77 : decode cX5_fills 77 = .ok (.iload 4, 2) := by decide +kernel
theorem dX5_fills_79 : decode cX5_fills 79 = .ok (.iaload, 1) := by decide +kernel
theorem dX5_fills_80 : decode cX5_fills 80 = .ok (.if_icmp .eq 17, 3) := by decide +kernel
theorem dX5_fills_83 : decode cX5_fills 83 = .ok (.aload_n 0, 1) := by decide +kernel
theorem dX5_fills_84 : decode cX5_fills 84 = .ok (.iconst 4, 1) := by decide +kernel
theorem dX5_fills_85 : decode cX5_fills 85 = .ok (.aload_n 0, 1) := by decide +kernel
theorem dX5_fills_86 : decode cX5_fills 86 = .ok (.iload_n 1, 1) := by decide +kernel
theorem dX5_fills_87 : decode cX5_fills 87 = .ok (.iconst 2, 1) := by decide +kernel
theorem dX5_fills_88 : decode cX5_fills 88 = .ok (.invokevirtual 77, 3) := by decide +kernel
theorem dX5_fills_91 : decode cX5_fills 91 = .ok (.iconst 1, 1) := by decide +kernel
theorem dX5_fills_92 : decode cX5_fills 92 = .ok (.isub, 1) := by decide +kernel
theorem dX5_fills_93 : decode cX5_fills 93 = .ok (.invokevirtual 102, 3) := by decide +kernel
theorem dX5_fills_96 : decode cX5_fills 96 = .ok (.ireturn, 1) := by decide +kernel
theorem dX5_fills_97 : decode cX5_fills 97 = .ok (.aload_n 0, 1) := by decide +kernel
theorem dX5_fills_98 : decode cX5_fills 98 = .ok (.getfield 9, 3) := by decide +kernel
theorem dX5_fills_101 : decode cX5_fills 101 = .ok (.iload 4, 2) := by decide +kernel
theorem dX5_fills_103 : decode cX5_fills 103 = .ok (.iconst 1, 1) := by decide +kernel
theorem dX5_fills_104 : decode cX5_fills 104 = .ok (.iadd, 1) := by decide +kernel
theorem dX5_fills_105 : decode cX5_fills 105 = .ok (.iaload, 1) := by decide +kernel
theorem dX5_fills_106 : decode cX5_fills 106 = .ok (.iload_n 3, 1) := by decide +kernel
theorem dX5_fills_107 : decode cX5_fills 107 = .ok (.if_icmp .ge 18, 3) := by decide +kernel
theorem dX5_fills_110 : decode cX5_fills 110 = .ok (.aload_n 0, 1) := by decide +kernel
theorem dX5_fills_111 : decode cX5_fills 111 = .ok (.iconst 5, 1) := by decide +kernel
theorem dX5_fills_112 : decode cX5_fills 112 = .ok (.aload_n 0, 1) := by decide +kernel
theorem dX5_fills_113 : decode cX5_fills 113 = .ok (.getfield 9, 3) := by decide +kernel
theorem dX5_fills_116 : decode cX5_fills 116 = .ok (.iload 4, 2) := by decide +kernel
theorem dX5_fills_118 : decode cX5_fills 118 = .ok (.iconst 1, 1) := by decide +kernel
theorem dX5_fills_119 : decode cX5_fills 119 = .ok (.iadd, 1) := by decide +kernel
theorem dX5_fills_120 : decode cX5_fills 120 = .ok (.iaload, 1) := by decide +kernel
theorem dX5_fills_121 : decode cX5_fills 121 = .ok (.invokevirtual 102, 3) := by decide +kernel
theorem dX5_fills_124 : decode cX5_fills 124 = .ok (.ireturn, 1) := by decide +kernel
theorem dX5_fills_125 : decode cX5_fills 125 = .ok (.aload_n 0, 1) := by decide +kernel
theorem dX5_fills_126 : decode cX5_fills 126 = .ok (.iload_n 1, 1) := by decide +kernel
theorem dX5_fills_127 : decode cX5_fills 127 = .ok (.iconst 3, 1) := by decide +kernel
theorem dX5_fills_128 : decode cX5_fills 128 = .ok (.invokevirtual 77, 3) := by decide +kernel
theorem dX5_fills_131 : decode cX5_fills 131 = .ok (.iload_n 3, 1) := by decide +kernel
theorem dX5_fills_132 : decode cX5_fills 132 = .ok (.iadd, 1) := by decide +kernel
theorem dX5_fills_133 : decode cX5_fills 133 = .ok (.sipush 400, 3) := by decide +kernel
theorem dX5_fills_136 : decode cX5_fills 136 = .ok (.if_icmp .le 20, 3) := by decide +kernel
theorem dX5_fills_139 : decode cX5_fills 139 = .ok (.aload_n 0, 1) := by decide +kernel
theorem dX5_fills_140 : decode cX5_fills 140 = .ok (.bipush 7, 2) := by decide +kernel
theorem dX5_fills_142 : decode cX5_fills 142 = .ok (.sipush 400, 3) := by decide +kernel
theorem dX5_fills_145 : decode cX5_fills 145 = .ok (.aload_n 0, 1) := by decide +kernel
theorem dX5_fills_146 : decode cX5_fills 146 = .ok (.iload_n 1, 1) := by decide +kernel
theorem dX5_fills_147 : decode cX5_fills 147 = .ok (.iconst 3, 1) := by decide +kernel
theorem dX5_fills_148 : decode cX5_fills 148 = .ok (.invokevirtual 77, 3) := by decide +kernel
theorem dX5_fills_151 : decode cX5_fills 151 = .ok (.isub, 1) := by decide +kernel
theorem dX5_fills_152 : decode cX5_fills 152 = .ok (.invokevirtual 102, 3) := by decide +kernel
theorem dX5_fills_155 : decode cX5_fills 155 = .ok (.ireturn, 1) := by decide +kernel
theorem dX5_fills_156 : decode cX5_fills 156 = .ok (.aload_n 0, 1) := by decide +kernel
theorem dX5_fills_157 : decode cX5_fills 157 = .ok (.getfield 9, 3) := by decide +kernel
theorem dX5_fills_160 : decode cX5_fills 160 = .ok (.iload 4, 2) := by decide +kernel
theorem dX5_fills_162 : decode cX5_fills 162 = .ok (.iconst 1, 1) := by decide +kernel
theorem dX5_fills_163 : decode cX5_fills 163 = .ok (.iadd, 1) := by decide +kernel
theorem dX5_fills_164 : decode cX5_fills 164 = .ok (.dup2, 1) := by decide +kernel
theorem dX5_fills_165 : decode cX5_fills 165 = .ok (.iaload, 1) := by decide +kernel
theorem dX5_fills_166 : decode cX5_fills 166 = .ok (.iload_n 3, 1) := by decide +kernel
theorem dX5_fills_167 : decode cX5_fills 167 = .ok (.isub, 1) := by decide +kernel
theorem dX5_fills_168 : decode cX5_fills 168 = .ok (.iastore, 1) := by decide +kernel
theorem dX5_fills_169 : decode cX5_fills 169 = .ok (.aload_n 0, 1) := by decide +kernel
theorem dX5_fills_170 : decode cX5_fills 170 = .ok (.iload_n 1, 1) := by decide +kernel
theorem dX5_fills_171 : decode cX5_fills 171 = .ok (.iconst 2, 1) := by decide +kernel
theorem dX5_fills_172 : decode cX5_fills 172 = .ok (.aload_n 0, 1) := by decide +kernel
theorem dX5_fills_173 : decode cX5_fills 173 = .ok (.getfield 9, 3) := by decide +kernel
theorem dX5_fills_176 : decode cX5_fills 176 = .ok (.iload 4, 2) := by decide +kernel
theorem dX5_fills_178 : decode cX5_fills 178 = .ok (.iaload, 1) := by decide +kernel
theorem dX5_fills_179 : decode cX5_fills 179 = .ok (.iconst 1, 1) := by decide +kernel
theorem dX5_fills_180 : decode cX5_fills 180 = .ok (.iadd, 1) := by decide +kernel
theorem dX5_fills_181 : decode cX5_fills 181 = .ok (.invokevirtual 95, 3) := by decide +kernel
theorem dX5_fills_184 : decode cX5_fills 184 = .ok (.aload_n 0, 1) := by decide +kernel
theorem dX5_fills_185 : decode cX5_fills 185 = .ok (.iload_n 1, 1) := by decide +kernel
theorem dX5_fills_186 : decode cX5_fills 186 = .ok (.iconst 3, 1) := by decide +kernel
theorem dX5_fills_187 : decode cX5_fills 187 = .ok (.aload_n 0, 1) := by decide +kernel
theorem dX5_fills_188 : decode cX5_fills 188 = .ok (.iload_n 1, 1) := by decide +kernel
theorem dX5_fills_189 : decode cX5_fills 189 = .ok (.iconst 3, 1) := by decide +kernel
theorem dX5_fills_190 : decode cX5_fills 190 = .ok (.invokevirtual 77, 3) := by decide +kernel
theorem dX5_fills_193 : decode cX5_fills 193 = .ok (.iload_n 3, 1) := by decide +kernel
theorem dX5_fills_194 : decode cX5_fills 194 = .ok (.iadd, 1) := by decide +kernel
theorem dX5_fills_195 : decode cX5_fills 195 = .ok (.invokevirtual 95, 3) := by decide +kernel
theorem dX5_fills_198 : decode cX5_fills 198 = .ok (.aload_n 0, 1) := by decide +kernel
theorem dX5_fills_199 : decode cX5_fills 199 = .ok (.aload_n 0, 1) := by decide +kernel
theorem dX5_fills_200 : decode cX5_fills 200 = .ok (.iload_n 1, 1) := by decide +kernel
theorem dX5_fills_201 : decode cX5_fills 201 = .ok (.iconst 3, 1) := by decide +kernel
theorem dX5_fills_202 : decode cX5_fills 202 = .ok (.invokevirtual 77, 3) := by decide +kernel
theorem dX5_fills_205 : decode cX5_fills 205 = .ok (.invokevirtual 117, 3) := by decide +kernel
theorem dX5_fills_208 : decode cX5_fills 208 = .ok (.ireturn, 1) := by decide +kernel
theorem dX5_fill_0 : decode cX5_fill 0 = .ok (.aload_n 0, 1) := by decide +kernel
theorem dX5_fill_1 : decode cX5_fill 1 = .ok (.invokevirtual 99, 3) := by decide +kernel
theorem dX5_fill_4 : decode cX5_fill 4 = .ok (.aload_n 0, 1) := by decide +kernel
theorem dX5_fill_5 : decode cX5_fill 5 = .ok (.aload_n 0, 1) := by decide +kernel
theorem dX5_fill_6 : decode cX5_fill 6 = .ok (.iload_n 1, 1) := by decide +kernel
theorem dX5_fill_7 : decode cX5_fill 7 = .ok (.iload_n 2, 1) := by decide +kernel
theorem dX5_fill_8 : decode cX5_fill 8 = .ok (.iload_n 3, 1) := by decide +kernel
theorem dX5_fill_9 : decode cX5_fill 9 = .ok (.invokevirtual 120, 3) := by decide +kernel
theorem dX5_fill_12 : decode cX5_fill 12 = .ok (.invokevirtual 106, 3) := by decide +kernel
theorem dX5_fill_15 : decode cX5_fill 15 = .ok (.ireturn, 1) := by decide +kernel
theorem dX5_clears_0 : decode cX5_clears 0 = .ok (.aload_n 0, 1) := by decide +kernel
theorem dX5_clears_1 : decode cX5_clears 1 = .ok (.iload_n 1, 1) := by decide +kernel
theorem dX5_clears_2 : decode cX5_clears 2 = .ok (.iconst 2, 1) := by decide +kernel
theorem dX5_clears_3 : decode cX5_clears 3 = .ok (.iconst 0, 1) := by decide +kernel
theorem dX5_clears_4 : decode cX5_clears 4 = .ok (.invokevirtual 95, 3) := by decide +kernel
theorem dX5_clears_7 : decode cX5_clears 7 = .ok (.aload_n 0, 1) := by decide +kernel
theorem dX5_clears_8 : decode cX5_clears 8 = .ok (.iload_n 1, 1) := by decide +kernel
theorem dX5_clears_9 : decode cX5_clears 9 = .ok (.iconst 3, 1) := by decide +kernel
theorem dX5_clears_10 : decode cX5_clears 10 = .ok (.iconst 0, 1) := by decide +kernel
theorem dX5_clears_11 : decode cX5_clears 11 = .ok (.invokevirtual 95, 3) := by decide +kernel
theorem dX5_clears_14 : decode cX5_clears 14 = .ok (.return_, 1) := by decide +kernel
theorem dX5_empties_0 : decode cX5_empties 0 = .ok (.aload_n 0, 1) := by decide +kernel
theorem dX5_empties_1 : decode cX5_empties 1 = .ok (.iload_n 1, 1) := by decide +kernel
theorem dX5_empties_2 : decode cX5_empties 2 = .ok (.invokevirtual 110, 3) := by decide +kernel
theorem dX5_empties_5 : decode cX5_empties 5 = .ok (.ifCond .ne 10, 3) := by decide +kernel
theorem dX5_empties_8 : decode cX5_empties 8 = .ok (.aload_n 0, 1) := by decide +kernel
theorem dX5_empties_9 : decode cX5_empties 9 = .ok (.iconst 3, 1) := by decide +kernel
theorem dX5_empties_10 : decode cX5_empties 10 = .ok (.iload_n 1, 1) := by decide +kernel
theorem dX5_empties_11 : decode cX5_empties 11 = .ok (.invokevirtual 102, 3) := by decide +kernel
theorem dX5_empties_14 : decode cX5_empties 14 = .ok (.ireturn, 1) := by decide +kernel
theorem dX5_empties_15 : decode cX5_empties 15 = .ok (.aload_n 0, 1) := by decide +kernel
theorem dX5_empties_16 : decode cX5_empties 16 = .ok (.iload_n 2, 1) := by decide +kernel
theorem dX5_empties_17 : decode cX5_empties 17 = .ok (.invokevirtual 114, 3) := by decide +kernel
theorem dX5_empties_20 : decode cX5_empties 20 = .ok (.ifCond .ne 10, 3) := by decide +kernel
theorem dX5_empties_23 : decode cX5_empties 23 = .ok (.aload_n 0, 1) := by decide +kernel
theorem dX5_empties_24 : decode cX5_empties 24 = .ok (.iconst 3, 1) := by decide +kernel
theorem dX5_empties_25 : decode cX5_empties 25 = .ok (.iload_n 2, 1) := by decide +kernel
theorem dX5_empties_26 : decode cX5_empties 26 = .ok (.invokevirtual 102, 3) := by decide +kernel
theorem dX5_empties_29 : decode cX5_empties 29 = .ok (.ireturn, 1) := by decide +kernel
theorem dX5_empties_30 : decode cX5_empties 30 = .ok (.aload_n 0, 1) := by decide +kernel
theorem dX5_empties_31 : decode cX5_empties 31 = .ok (.iload_n 1, 1) := by decide +kernel
theorem dX5_empties_32 : decode cX5_empties 32 = .ok (.iconst 3, 1) := by decide +kernel
theorem dX5_empties_33 : decode cX5_empties 33 = .ok (.invokevirtual 77, 3) := by decide +kernel
theorem dX5_empties_36 : decode cX5_empties 36 = .ok (.ifCond .ne 11, 3) := by decide +kernel
theorem dX5_empties_39 : decode cX5_empties 39 = .ok (.aload_n 0, 1) := by decide +kernel
theorem dX5_empties_40 : decode cX5_empties 40 = .ok (.bipush 6, 2) := by decide +kernel
theorem dX5_empties_42 : decode cX5_empties 42 = .ok (.iload_n 1, 1) := by decide +kernel
theorem dX5_empties_43 : decode cX5_empties 43 = .ok (.invokevirtual 102, 3) := by decide +kernel
theorem dX5_empties_46 : decode cX5_empties 46 = .ok (.ireturn, 1) := by decide +kernel
theorem dX5_empties_47 : decode cX5_empties 47 = .ok (.bipush 22, 2) := by decide +kernel
theorem dX5_empties_49 : decode cX5_empties 49 = .ok (.iconst 2, 1) := by decide +kernel
theorem dX5_empties_50 : decode cX5_empties 50 = .ok (.iload_n 2, 1) := by decide +kernel
theorem dX5_empties_51 : decode cX5_empties 51 = .ok (.imul, 1) := by decide +kernel
theorem dX5_empties_52 : decode cX5_empties 52 = .ok (.iadd, 1) := by decide +kernel
theorem dX5_empties_53 : decode cX5_empties 53 = .ok (.istore_n 3, 1) := by decide +kernel
theorem dX5_empties_54 : decode cX5_empties 54 = .ok (.aload_n 0, 1) := by decide +kernel
theorem dX5_empties_55 : decode cX5_empties 55 = .ok (.iload_n 1, 1) := by decide +kernel
theorem dX5_empties_56 : decode cX5_empties 56 = .ok (.iconst 2, 1) := by decide +kernel
theorem dX5_empties_57 : decode cX5_empties 57 = .ok (.invokevirtual 77, 3) := by decide +kernel
theorem dX5_empties_60 : decode cX5_empties 60 = .ok (.iconst 1, 1) := by decide +kernel
theorem dX5_empties_61 : decode cX5_empties 61 = .ok (.isub, 1) := by decide +kernel
theorem dX5_empties_62 : decode cX5_empties 62 = .ok (.aload_n 0, 1) := by decide +kernel
theorem dX5_empties_63 : decode cX5_empties 63 = .ok (.getfield 9, 3) := by decide +kernel
theorem dX5_empties_66 : decode cX5_empties 66 = .ok (.iload_n 3, 1) := by decide +kernel
theorem dX5_empties_67 : decode cX5_empties 67 = .ok (.iaload, 1) := by decide +kernel
theorem dX5_empties_68 : decode cX5_empties 68 = .ok (.if_icmp .eq 17, 3) := by decide +kernel
theorem dX5_empties_71 : decode cX5_empties 71 = .ok (.aload_n 0, 1) := by decide +kernel
theorem dX5_empties_72 : decode cX5_empties 72 = .ok (.iconst 4, 1) := by decide +kernel
theorem dX5_empties_73 : decode cX5_empties 73 = .ok (.aload_n 0, 1) := by decide +kernel
theorem dX5_empties_74 : decode cX5_empties 74 = .ok (.iload_n 1, 1) := by decide +kernel
theorem dX5_empties_75 : decode cX5_empties 75 = .ok (.iconst 2, 1) := by decide +kernel
theorem dX5_empties_76 : decode cX5_empties 76 = .ok (.invokevirtual 77, 3) := by decide +kernel
theorem dX5_empties_79 : decode cX5_empties 79 = .ok (.iconst 1, 1) := by decide +kernel
theorem dX5_empties_80 : decode cX5_empties 80 = .ok (.isub, 1) := by decide +kernel
theorem dX5_empties_81 : decode cX5_empties 81 = .ok (.invokevirtual 102, 3) := by decide +kernel
theorem dX5_empties_84 : decode cX5_empties 84 = .ok (.ireturn, 1) := by decide +kernel
theorem dX5_empties_85 : decode cX5_empties 85 = .ok (.aload_n 0, 1) := by decide +kernel
theorem dX5_empties_86 : decode cX5_empties 86 = .ok (.getfield 9, 3) := by decide +kernel
theorem dX5_empties_89 : decode cX5_empties 89 = .ok (.iload_n 3, 1) := by decide +kernel
theorem dX5_empties_90 : decode cX5_empties 90 = .ok (.iconst 1, 1) := by decide +kernel
theorem dX5_empties_91 : decode cX5_empties 91 = .ok (.iadd, 1) := by decide +kernel
theorem dX5_empties_92 : decode cX5_empties 92 = .ok (.iaload, 1) := by decide +kernel
theorem dX5_empties_93 : decode cX5_empties 93 = .ok (.aload_n 0, 1) := by decide +kernel
theorem dX5_empties_94 : decode cX5_empties 94 = .ok (.iload_n 1, 1) := by decide +kernel
theorem dX5_empties_95 : decode cX5_empties 95 = .ok (.iconst 3, 1) := by decide +kernel
theorem dX5_empties_96 : decode cX5_empties 96 = .ok (.invokevirtual 77, 3) := by decide +kernel
theorem dX5_empties_99 : decode cX5_empties 99 = .ok (.iadd, 1) := by decide +kernel
theorem dX5_empties_100 : decode cX5_empties 100 = .ok (.sipush 900, 3) := by decide +kernel
theorem dX5_empties_103 : decode cX5_empties 103 = .ok (.if_icmp .le 22, 3) := by decide +kernel
theorem dX5_empties_106 : decode cX5_empties 106 = .ok (.aload_n 0, 1) := by decide +kernel
theorem dX5_empties_107 : decode cX5_empties 107 = .ok (.bipush 7, 2) := by decide +kernel
theorem dX5_empties_109 : decode cX5_empties 109 = .ok (.sipush 900, 3) := by decide +kernel
theorem dX5_empties_112 : decode cX5_empties 112 = .ok (.aload_n 0, 1) := by decide +kernel
theorem dX5_empties_113 : decode cX5_empties 113 = .ok (.getfield 9, 3) := by decide +kernel
theorem dX5_empties_116 : decode cX5_empties 116 = .ok (.iload_n 3, 1) := by decide +kernel
theorem dX5_empties_117 : decode cX5_empties 117 = .ok (.iconst 1, 1) := by decide +kernel
theorem dX5_empties_118 : decode cX5_empties 118 = .ok (.iadd, 1) := by decide +kernel
theorem dX5_empties_119 : decode cX5_empties 119 = .ok (.iaload, 1) := by decide +kernel
theorem dX5_empties_120 : decode cX5_empties 120 = .ok (.isub, 1) := by decide +kernel
theorem dX5_empties_121 : decode cX5_empties 121 = .ok (.invokevirtual 102, 3) := by decide +kernel
theorem dX5_empties_124 : decode cX5_empties 124 = .ok (.ireturn, 1) := by decide +kernel
theorem dX5_empties_125 : decode cX5_empties 125 = .ok (.aload_n 0, 1) := by decide +kernel
theorem dX5_empties_126 : decode cX5_empties 126 = .ok (.getfield 9, 3) := by decide +kernel
theorem dX5_empties_129 : decode cX5_empties 129 = .ok (.iload_n 3, 1) := by decide +kernel
theorem dX5_empties_130 : decode cX5_empties 130 = .ok (.iconst 1, 1) := by decide +kernel
theorem dX5_empties_131 : decode cX5_empties 131 = .ok (.iadd, 1) := by decide +kernel
theorem dX5_empties_132 : decode cX5_empties 132 = .ok (.dup2, 1) := by decide +kernel
theorem dX5_empties_133 : decode cX5_empties 133 = .ok (.iaload, 1) := by decide +kernel
theorem dX5_empties_134 : decode cX5_empties 134 = .ok (.aload_n 0, 1) := by decide +kernel
theorem dX5_empties_135 : decode cX5_empties 135 = .ok (.iload_n 1, 1) := by decide +kernel
theorem dX5_empties_136 : decode cX5_empties 136 = .ok (.iconst 3, 1) := by decide +kernel
theorem dX5_empties_137 : decode cX5_empties 137 = .ok (.invokevirtual 77, 3) := by decide +kernel
theorem dX5_empties_140 : decode cX5_empties 140 = .ok (.iadd, 1) := by decide +kernel
theorem dX5_empties_141 : decode cX5_empties 141 = .ok (.iastore, 1) := by decide +kernel
theorem dX5_empties_142 : decode cX5_empties 142 = .ok (.aload_n 0, 1) := by decide +kernel
theorem dX5_empties_143 : decode cX5_empties 143 = .ok (.iload_n 1, 1) := by decide +kernel
theorem dX5_empties_144 : decode cX5_empties 144 = .ok (.invokevirtual 123, 3) := by decide +kernel
theorem dX5_empties_147 : decode cX5_empties 147 = .ok (.aload_n 0, 1) := by decide +kernel
theorem dX5_empties_148 : decode cX5_empties 148 = .ok (.aload_n 0, 1) := by decide +kernel
theorem dX5_empties_149 : decode cX5_empties 149 = .ok (.getfield 9, 3) := by decide +kernel
theorem dX5_empties_152 : decode cX5_empties 152 = .ok (.iload_n 3, 1) := by decide +kernel
theorem dX5_empties_153 : decode cX5_empties 153 = .ok (.iconst 1, 1) := by decide +kernel
theorem dX5_empties_154 : decode cX5_empties 154 = .ok (.iadd, 1) := by decide +kernel
theorem dX5_empties_155 : decode cX5_empties 155 = .ok (.iaload, 1) := by decide +kernel
theorem dX5_empties_156 : decode cX5_empties 156 = .ok (.invokevirtual 117, 3) := by decide +kernel
theorem dX5_empties_159 : decode cX5_empties 159 = .ok (.ireturn, 1) := by decide +kernel
theorem dX5_empty_0 : decode cX5_empty 0 = .ok (.aload_n 0, 1) := by decide +kernel
theorem dX5_empty_1 : decode cX5_empty 1 = .ok (.invokevirtual 99, 3) := by decide +kernel
theorem dX5_empty_4 : decode cX5_empty 4 = .ok (.aload_n 0, 1) := by decide +kernel
theorem dX5_empty_5 : decode cX5_empty 5 = .ok (.aload_n 0, 1) := by decide +kernel
theorem dX5_empty_6 : decode cX5_empty 6 = .ok (.iload_n 1, 1) := by decide +kernel
theorem dX5_empty_7 : decode cX5_empty 7 = .ok (.iload_n 2, 1) := by decide +kernel
theorem dX5_empty_8 : decode cX5_empty 8 = .ok (.invokevirtual 127, 3) := by decide +kernel
theorem dX5_empty_11 : decode cX5_empty 11 = .ok (.invokevirtual 106, 3) := by decide +kernel
theorem dX5_empty_14 : decode cX5_empty 14 = .ok (.ireturn, 1) := by decide +kernel
theorem dX5_beats_0 : decode cX5_beats 0 = .ok (.aload_n 0, 1) := by decide +kernel
theorem dX5_beats_1 : decode cX5_beats 1 = .ok (.iload_n 1, 1) := by decide +kernel
theorem dX5_beats_2 : decode cX5_beats 2 = .ok (.invokevirtual 110, 3) := by decide +kernel
theorem dX5_beats_5 : decode cX5_beats 5 = .ok (.ifCond .ne 10, 3) := by decide +kernel
theorem dX5_beats_8 : decode cX5_beats 8 = .ok (.aload_n 0, 1) := by decide +kernel
theorem dX5_beats_9 : decode cX5_beats 9 = .ok (.iconst 3, 1) := by decide +kernel
theorem dX5_beats_10 : decode cX5_beats 10 = .ok (.iload_n 1, 1) := by decide +kernel
theorem dX5_beats_11 : decode cX5_beats 11 = .ok (.invokevirtual 102, 3) := by decide +kernel
theorem dX5_beats_14 : decode cX5_beats 14 = .ok (.ireturn, 1) := by decide +kernel
theorem dX5_beats_15 : decode cX5_beats 15 = .ok (.aload_n 0, 1) := by decide +kernel
theorem dX5_beats_16 : decode cX5_beats 16 = .ok (.iload_n 1, 1) := by decide +kernel
theorem dX5_beats_17 : decode cX5_beats 17 = .ok (.iconst 1, 1) := by decide +kernel
theorem dX5_beats_18 : decode cX5_beats 18 = .ok (.invokevirtual 77, 3) := by decide +kernel
theorem dX5_beats_21 : decode cX5_beats 21 = .ok (.istore_n 2, 1) := by decide +kernel
theorem dX5_beats_22 : decode cX5_beats 22 = .ok (.aload_n 0, 1) := by decide +kernel
theorem dX5_beats_23 : decode cX5_beats 23 = .ok (.iload_n 1, 1) := by decide +kernel
theorem dX5_beats_24 : decode cX5_beats 24 = .ok (.iconst 1, 1) := by decide +kernel
theorem dX5_beats_25 : decode cX5_beats 25 = .ok (.iconst 0, 1) := by decide +kernel
theorem dX5_beats_26 : decode cX5_beats 26 = .ok (.invokevirtual 95, 3) := by decide +kernel
theorem dX5_beats_29 : decode cX5_beats 29 = .ok (.aload_n 0, 1) := by decide +kernel
theorem dX5_beats_30 : decode cX5_beats 30 = .ok (.iload_n 2, 1) := by decide +kernel
theorem dX5_beats_31 : decode cX5_beats 31 = .ok (.invokevirtual 117, 3) := by decide +kernel
theorem dX5_beats_34 : decode cX5_beats 34 = .ok (.ireturn, 1) := by decide +kernel
theorem dX5_beat_0 : decode cX5_beat 0 = .ok (.aload_n 0, 1) := by decide +kernel
theorem dX5_beat_1 : decode cX5_beat 1 = .ok (.invokevirtual 99, 3) := by decide +kernel
theorem dX5_beat_4 : decode cX5_beat 4 = .ok (.aload_n 0, 1) := by decide +kernel
theorem dX5_beat_5 : decode cX5_beat 5 = .ok (.aload_n 0, 1) := by decide +kernel
theorem dX5_beat_6 : decode cX5_beat 6 = .ok (.iload_n 1, 1) := by decide +kernel
theorem dX5_beat_7 : decode cX5_beat 7 = .ok (.invokevirtual 130, 3) := by decide +kernel
theorem dX5_beat_10 : decode cX5_beat 10 = .ok (.invokevirtual 106, 3) := by decide +kernel
theorem dX5_beat_13 : decode cX5_beat 13 = .ok (.ireturn, 1) := by decide +kernel
theorem dX5_swears_0 : decode cX5_swears 0 = .ok (.aload_n 0, 1) := by decide +kernel
theorem dX5_swears_1 : decode cX5_swears 1 = .ok (.iload_n 1, 1) := by decide +kernel
theorem dX5_swears_2 : decode cX5_swears 2 = .ok (.aload_n 0, 1) := by decide +kernel
theorem dX5_swears_3 : decode cX5_swears 3 = .ok (.getfield 9, 3) := by decide +kernel
theorem dX5_swears_6 : decode cX5_swears 6 = .ok (.bipush 10, 2) := by decide +kernel
theorem dX5_swears_8 : decode cX5_swears 8 = .ok (.aload_n 0, 1) := by decide +kernel
theorem dX5_swears_9 : decode cX5_swears 9 = .ok (.getfield 9, 3) := by decide +kernel
theorem dX5_swears_12 : decode cX5_swears 12 = .ok (.iconst 1, 1) := by decide +kernel
theorem dX5_swears_13 : decode cX5_swears 13 = .ok (.iaload, 1) := by decide +kernel
theorem dX5_swears_14 : decode cX5_swears 14 = .ok (.iadd, 1) := by decide +kernel
theorem dX5_swears_15 : decode cX5_swears 15 = .ok (.iaload, 1) := by decide +kernel
theorem dX5_swears_16 : decode cX5_swears 16 = .ok (.aload_n 0, 1) := by decide +kernel
theorem dX5_swears_17 : decode cX5_swears 17 = .ok (.getfield 9, 3) := by decide +kernel
theorem dX5_swears_20 : decode cX5_swears 20 = .ok (.iconst 0, 1) := by decide +kernel
theorem dX5_swears_21 : decode cX5_swears 21 = .ok (.iaload, 1) := by decide +kernel
theorem dX5_swears_22 : decode cX5_swears 22 = .ok (.isub, 1) := by decide +kernel
theorem dX5_swears_23 : decode cX5_swears 23 = .ok (.invokevirtual 102, 3) := by decide +kernel
theorem dX5_swears_26 : decode cX5_swears 26 = .ok (.ireturn, 1) := by decide +kernel
theorem dX5_presses_0 : decode cX5_presses 0 = .ok (.iload_n 1, 1) := by decide +kernel
theorem dX5_presses_1 : decode cX5_presses 1 = .ok (.iconst 0, 1) := by decide +kernel
theorem dX5_presses_2 : decode cX5_presses 2 = .ok (.bipush 30, 2) := by decide +kernel
theorem dX5_presses_4 : decode cX5_presses 4 = .ok (.invokestatic 73, 3) := by decide +kernel
theorem dX5_presses_7 : decode cX5_presses 7 = .ok (.ifCond .ne 10, 3) := by decide +kernel
theorem dX5_presses_10 : decode cX5_presses 10 = .ok (.aload_n 0, 1) := by decide +kernel
theorem dX5_presses_11 : decode cX5_presses 11 = .ok (.iconst 1, 1) := by decide +kernel
theorem dX5_presses_12 : decode cX5_presses 12 = .ok (.iconst 0, 1) := by decide +kernel
theorem dX5_presses_13 : decode cX5_presses 13 = .ok (.invokevirtual 102, 3) := by decide +kernel
theorem dX5_presses_16 : decode cX5_presses 16 = .ok (.ireturn, 1) := by decide +kernel
theorem dX5_presses_17 : decode cX5_presses 17 = .ok (.aload_n 0, 1) := by decide +kernel
theorem dX5_presses_18 : decode cX5_presses 18 = .ok (.aload_n 0, 1) := by decide +kernel
theorem dX5_presses_19 : decode cX5_presses 19 = .ok (.getfield 9, 3) := by decide +kernel
theorem dX5_presses_22 : decode cX5_presses 22 = .ok (.iconst 1, 1) := by decide +kernel
theorem dX5_presses_23 : decode cX5_presses 23 = .ok (.iaload, 1) := by decide +kernel
theorem dX5_presses_24 : decode cX5_presses 24 = .ok (.invokevirtual 133, 3) := by decide +kernel
theorem dX5_presses_27 : decode cX5_presses 27 = .ok (.ifCond .eq 10, 3) := by decide +kernel
theorem dX5_presses_30 : decode cX5_presses 30 = .ok (.aload_n 0, 1) := by decide +kernel
theorem dX5_presses_31 : decode cX5_presses 31 = .ok (.bipush 8, 2) := by decide +kernel
theorem dX5_presses_33 : decode cX5_presses 33 = .ok (.invokevirtual 136, 3) := by decide +kernel
theorem dX5_presses_36 : decode cX5_presses 36 = .ok (.ireturn, 1) := by decide +kernel
theorem dX5_presses_37 : decode cX5_presses 37 = .ok (.aload_n 0, 1) := by decide +kernel
theorem dX5_presses_38 : decode cX5_presses 38 = .ok (.getfield 9, 3) := by decide +kernel
theorem dX5_presses_41 : decode cX5_presses 41 = .ok (.iconst 3, 1) := by decide +kernel
theorem dX5_presses_42 : decode cX5_presses 42 = .ok (.iaload, 1) := by decide +kernel
theorem dX5_presses_43 : decode cX5_presses 43 = .ok (.istore_n 2, 1) := by decide +kernel
theorem dX5_presses_44 : decode cX5_presses 44 = .ok (.aload_n 0, 1) := by decide +kernel
theorem dX5_presses_45 : decode cX5_presses 45 = .ok (.getfield 9, 3) := by decide +kernel
theorem dX5_presses_48 : decode cX5_presses 48 = .ok (.iconst 3, 1) := by decide +kernel
theorem dX5_presses_49 : decode cX5_presses 49 = .ok (.iload_n 1, 1) := by decide +kernel
theorem dX5_presses_50 : decode cX5_presses 50 = .ok (.iastore, 1) := by decide +kernel
theorem dX5_presses_51 : decode cX5_presses 51 = .ok (.aload_n 0, 1) := by decide +kernel
theorem dX5_presses_52 : decode cX5_presses 52 = .ok (.iload_n 2, 1) := by decide +kernel
theorem dX5_presses_53 : decode cX5_presses 53 = .ok (.invokevirtual 117, 3) := by decide +kernel
theorem dX5_presses_56 : decode cX5_presses 56 = .ok (.ireturn, 1) := by decide +kernel
theorem dX5_thumb_0 : decode cX5_thumb 0 = .ok (.aload_n 0, 1) := by decide +kernel
theorem dX5_thumb_1 : decode cX5_thumb 1 = .ok (.invokevirtual 99, 3) := by decide +kernel
theorem dX5_thumb_4 : decode cX5_thumb 4 = .ok (.aload_n 0, 1) := by decide +kernel
theorem dX5_thumb_5 : decode cX5_thumb 5 = .ok (.aload_n 0, 1) := by decide +kernel
theorem dX5_thumb_6 : decode cX5_thumb 6 = .ok (.iload_n 1, 1) := by decide +kernel
theorem dX5_thumb_7 : decode cX5_thumb 7 = .ok (.invokevirtual 139, 3) := by decide +kernel
theorem dX5_thumb_10 : decode cX5_thumb 10 = .ok (.invokevirtual 106, 3) := by decide +kernel
theorem dX5_thumb_13 : decode cX5_thumb 13 = .ok (.ireturn, 1) := by decide +kernel
theorem dX5_weighsBag_0 : decode cX5_weighsBag 0 = .ok (.aload_n 0, 1) := by decide +kernel
theorem dX5_weighsBag_1 : decode cX5_weighsBag 1 = .ok (.iload_n 1, 1) := by decide +kernel
theorem dX5_weighsBag_2 : decode cX5_weighsBag 2 = .ok (.invokevirtual 110, 3) := by decide +kernel
theorem dX5_weighsBag_5 : decode cX5_weighsBag 5 = .ok (.ifCond .eq 15, 3) := by decide +kernel
theorem dX5_weighsBag_8 : decode cX5_weighsBag 8 = .ok (.aload_n 0, 1) := by decide +kernel
theorem dX5_weighsBag_9 : decode cX5_weighsBag 9 = .ok (.aload_n 0, 1) := by decide +kernel
theorem dX5_weighsBag_10 : decode cX5_weighsBag 10 = .ok (.iload_n 1, 1) := by decide +kernel
theorem dX5_weighsBag_11 : decode cX5_weighsBag 11 = .ok (.invokevirtual 142, 3) := by decide +kernel
theorem dX5_weighsBag_14 : decode cX5_weighsBag 14 = .ok (.invokevirtual 117, 3) := by decide +kernel
theorem dX5_weighsBag_17 : decode cX5_weighsBag 17 = .ok (.goto 9, 3) := by decide +kernel
theorem dX5_weighsBag_20 : decode cX5_weighsBag 20 = .ok (.aload_n 0, 1) := by decide +kernel
theorem dX5_weighsBag_21 : decode cX5_weighsBag 21 = .ok (.iconst 3, 1) := by decide +kernel
theorem dX5_weighsBag_22 : decode cX5_weighsBag 22 = .ok (.iload_n 1, 1) := by decide +kernel
theorem dX5_weighsBag_23 : decode cX5_weighsBag 23 = .ok (.invokevirtual 102, 3) := by decide +kernel
theorem dX5_weighsBag_26 : decode cX5_weighsBag 26 = .ok (.ireturn, 1) := by decide +kernel
theorem dX5_weigh_0 : decode cX5_weigh 0 = .ok (.aload_n 0, 1) := by decide +kernel
theorem dX5_weigh_1 : decode cX5_weigh 1 = .ok (.invokevirtual 99, 3) := by decide +kernel
theorem dX5_weigh_4 : decode cX5_weigh 4 = .ok (.aload_n 0, 1) := by decide +kernel
theorem dX5_weigh_5 : decode cX5_weigh 5 = .ok (.aload_n 0, 1) := by decide +kernel
theorem dX5_weigh_6 : decode cX5_weigh 6 = .ok (.iload_n 1, 1) := by decide +kernel
theorem dX5_weigh_7 : decode cX5_weigh 7 = .ok (.invokevirtual 145, 3) := by decide +kernel
theorem dX5_weigh_10 : decode cX5_weigh 10 = .ok (.invokevirtual 106, 3) := by decide +kernel
theorem dX5_weigh_13 : decode cX5_weigh 13 = .ok (.ireturn, 1) := by decide +kernel
theorem dX5_most_0 : decode cX5_most 0 = .ok (.iload_n 1, 1) := by decide +kernel
theorem dX5_most_1 : decode cX5_most 1 = .ok (.ifCond .ne 7, 3) := by decide +kernel
theorem dX5_most_4 : decode cX5_most 4 = .ok (.iconst 4, 1) := by decide +kernel
theorem dX5_most_5 : decode cX5_most 5 = .ok (.goto 25, 3) := by decide +kernel
theorem dX5_most_8 : decode cX5_most 8 = .ok (.iload_n 1, 1) := by decide +kernel
theorem dX5_most_9 : decode cX5_most 9 = .ok (.iconst 1, 1) := by decide +kernel
theorem dX5_most_10 : decode cX5_most 10 = .ok (.if_icmp .ne 8, 3) := by decide +kernel
theorem dX5_most_13 : decode cX5_most 13 = .ok (.bipush 9, 2) := by decide +kernel
theorem dX5_most_15 : decode cX5_most 15 = .ok (.goto 15, 3) := by decide +kernel
theorem dX5_most_18 : decode cX5_most 18 = .ok (.iload_n 1, 1) := by decide +kernel
theorem dX5_most_19 : decode cX5_most 19 = .ok (.iconst 2, 1) := by decide +kernel
theorem dX5_most_20 : decode cX5_most 20 = .ok (.if_icmp .ne 8, 3) := by decide +kernel
theorem dX5_most_23 : decode cX5_most 23 = .ok (.bipush 14, 2) := by decide +kernel
theorem dX5_most_25 : decode cX5_most 25 = .ok (.goto 5, 3) := by decide +kernel
theorem dX5_most_28 : decode cX5_most 28 = .ok (.bipush 20, 2) := by decide +kernel
theorem dX5_most_30 : decode cX5_most 30 = .ok (.ireturn, 1) := by decide +kernel
theorem dX5_coins_0 : decode cX5_coins 0 = .ok (.iload_n 3, 1) := by decide +kernel
theorem dX5_coins_1 : decode cX5_coins 1 = .ok (.ifCond .gt 5, 3) := by decide +kernel
theorem dX5_coins_4 : decode cX5_coins 4 = .ok (.iconst 0, 1) := by decide +kernel
theorem dX5_coins_5 : decode cX5_coins 5 = .ok (.ireturn, 1) := by decide +kernel
theorem dX5_coins_6 : decode cX5_coins 6 = .ok (.iload_n 1, 1) := by decide +kernel
theorem dX5_coins_7 : decode cX5_coins 7 = .ok (.iload_n 2, 1) := by decide +kernel
theorem dX5_coins_8 : decode cX5_coins 8 = .ok (.invokestatic 148, 3) := by decide +kernel
theorem dX5_coins_11 : decode cX5_coins 11 = .ok (.iload_n 3, 1) := by decide +kernel
theorem dX5_coins_12 : decode cX5_coins 12 = .ok (.imul, 1) := by decide +kernel
theorem dX5_coins_13 : decode cX5_coins 13 = .ok (.bipush 10, 2) := by decide +kernel
theorem dX5_coins_15 : decode cX5_coins 15 = .ok (.idiv, 1) := by decide +kernel
theorem dX5_coins_16 : decode cX5_coins 16 = .ok (.istore 4, 2) := by decide +kernel
theorem dX5_coins_18 : decode cX5_coins 18 = .ok (.aload_n 0, 1) := by decide +kernel
theorem dX5_coins_19 : decode cX5_coins 19 = .ok (.iload_n 1, 1) := by decide +kernel
theorem dX5_coins_20 : decode cX5_coins 20 = .ok (.invokevirtual 133, 3) := by decide +kernel
theorem dX5_coins_23 : decode cX5_coins 23 = .ok (.ifCond .eq 14, 3) := by decide +kernel
theorem dX5_coins_26 : decode cX5_coins 26 = .ok (.iload 4, 2) := by decide +kernel
theorem dX5_coins_28 : decode cX5_coins 28 = .ok (.iload 4, 2) := by decide +kernel
theorem dX5_coins_30 : decode cX5_coins 30 = .ok (.bipush 10, 2) := by decide +kernel
theorem dX5_coins_32 : decode cX5_coins 32 = .ok (.idiv, 1) := by decide +kernel
theorem dX5_coins_33 : decode cX5_coins 33 = .ok (.iadd, 1) := by decide +kernel
theorem dX5_coins_34 : decode cX5_coins 34 = .ok (.goto 5, 3) := by decide +kernel
theorem dX5_coins_37 : decode cX5_coins 37 = .ok (.iload 4, 2) := by decide +kernel
theorem dX5_coins_39 : decode cX5_coins 39 = .ok (.ireturn, 1) := by decide +kernel
theorem dX5_sells_0 : decode cX5_sells 0 = .ok (.aload_n 0, 1) := by decide +kernel
theorem dX5_sells_1 : decode cX5_sells 1 = .ok (.iload_n 1, 1) := by decide +kernel
theorem dX5_sells_2 : decode cX5_sells 2 = .ok (.invokevirtual 110, 3) := by decide +kernel
theorem dX5_sells_5 : decode cX5_sells 5 = .ok (.ifCond .ne 10, 3) := by decide +kernel
theorem dX5_sells_8 : decode cX5_sells 8 = .ok (.aload_n 0, 1) := by decide +kernel
theorem dX5_sells_9 : decode cX5_sells 9 = .ok (.iconst 3, 1) := by decide +kernel
theorem dX5_sells_10 : decode cX5_sells 10 = .ok (.iload_n 1, 1) := by decide +kernel
theorem dX5_sells_11 : decode cX5_sells 11 = .ok (.invokevirtual 102, 3) := by decide +kernel
theorem dX5_sells_14 : decode cX5_sells 14 = .ok (.ireturn, 1) := by decide +kernel
theorem dX5_sells_15 : decode cX5_sells 15 = .ok (.aload_n 0, 1) := by decide +kernel
theorem dX5_sells_16 : decode cX5_sells 16 = .ok (.iload_n 1, 1) := by decide +kernel
theorem dX5_sells_17 : decode cX5_sells 17 = .ok (.iconst 3, 1) := by decide +kernel
theorem dX5_sells_18 : decode cX5_sells 18 = .ok (.invokevirtual 77, 3) := by decide +kernel
theorem dX5_sells_21 : decode cX5_sells 21 = .ok (.ifCond .ne 11, 3) := by decide +kernel
theorem dX5_sells_24 : decode cX5_sells 24 = .ok (.aload_n 0, 1) := by decide +kernel
theorem dX5_sells_25 : decode cX5_sells 25 = .ok (.bipush 6, 2) := by decide +kernel
theorem dX5_sells_27 : decode cX5_sells 27 = .ok (.iload_n 1, 1) := by decide +kernel
theorem dX5_sells_28 : decode cX5_sells 28 = .ok (.invokevirtual 102, 3) := by decide +kernel
theorem dX5_sells_31 : decode cX5_sells 31 = .ok (.ireturn, 1) := by decide +kernel
theorem dX5_sells_32 : decode cX5_sells 32 = .ok (.aload_n 0, 1) := by decide +kernel
theorem dX5_sells_33 : decode cX5_sells 33 = .ok (.getfield 9, 3) := by decide +kernel
theorem dX5_sells_36 : decode cX5_sells 36 = .ok (.iconst 1, 1) := by decide +kernel
theorem dX5_sells_37 : decode cX5_sells 37 = .ok (.iaload, 1) := by decide +kernel
theorem dX5_sells_38 : decode cX5_sells 38 = .ok (.istore_n 2, 1) := by decide +kernel
theorem dX5_sells_39 : decode cX5_sells 39 = .ok (.aload_n 0, 1) := by decide +kernel
theorem dX5_sells_40 : decode cX5_sells 40 = .ok (.getfield 9, 3) := by decide +kernel
theorem dX5_sells_43 : decode cX5_sells 43 = .ok (.iconst 3, 1) := by decide +kernel
theorem dX5_sells_44 : decode cX5_sells 44 = .ok (.iaload, 1) := by decide +kernel
theorem dX5_sells_45 : decode cX5_sells 45 = .ok (.aload_n 0, 1) := by decide +kernel
theorem dX5_sells_46 : decode cX5_sells 46 = .ok (.iload_n 2, 1) := by decide +kernel
theorem dX5_sells_47 : decode cX5_sells 47 = .ok (.invokevirtual 151, 3) := by decide +kernel
theorem dX5_sells_50 : decode cX5_sells 50 = .ok (.if_icmp .le 15, 3) := by decide +kernel
theorem dX5_sells_53 : decode cX5_sells 53 = .ok (.aload_n 0, 1) := by decide +kernel
theorem dX5_sells_54 : decode cX5_sells 54 = .ok (.bipush 10, 2) := by decide +kernel
theorem dX5_sells_56 : decode cX5_sells 56 = .ok (.aload_n 0, 1) := by decide +kernel
theorem dX5_sells_57 : decode cX5_sells 57 = .ok (.iload_n 2, 1) := by decide +kernel
theorem dX5_sells_58 : decode cX5_sells 58 = .ok (.invokevirtual 151, 3) := by decide +kernel
theorem dX5_sells_61 : decode cX5_sells 61 = .ok (.invokevirtual 102, 3) := by decide +kernel
theorem dX5_sells_64 : decode cX5_sells 64 = .ok (.ireturn, 1) := by decide +kernel
theorem dX5_sells_65 : decode cX5_sells 65 = .ok (.aload_n 0, 1) := by decide +kernel
theorem dX5_sells_66 : decode cX5_sells 66 = .ok (.aload_n 0, 1) := by decide +kernel
theorem dX5_sells_67 : decode cX5_sells 67 = .ok (.iload_n 1, 1) := by decide +kernel
theorem dX5_sells_68 : decode cX5_sells 68 = .ok (.invokevirtual 89, 3) := by decide +kernel
theorem dX5_sells_71 : decode cX5_sells 71 = .ok (.invokevirtual 92, 3) := by decide +kernel
theorem dX5_sells_74 : decode cX5_sells 74 = .ok (.istore_n 3, 1) := by decide +kernel
theorem dX5_sells_75 : decode cX5_sells 75 = .ok (.iload_n 3, 1) := by decide +kernel
theorem dX5_sells_76 : decode cX5_sells 76 = .ok (.aload_n 0, 1) := by decide +kernel
theorem dX5_sells_77 : decode cX5_sells 77 = .ok (.iload_n 1, 1) := by decide +kernel
theorem dX5_sells_78 : decode cX5_sells 78 = .ok (.iconst 0, 1) := by decide +kernel
theorem dX5_sells_79 : decode cX5_sells 79 = .ok (.invokevirtual 77, 3) := by decide +kernel
theorem dX5_sells_82 : decode cX5_sells 82 = .ok (.isub, 1) := by decide +kernel
theorem dX5_sells_83 : decode cX5_sells 83 = .ok (.istore 4, 2) := by decide +kernel
theorem dX5_sells_85 : decode cX5_sells 85 = .ok (.iload 4, 2) := by decide +kernel
theorem dX5_sells_87 : decode cX5_sells 87 = .ok (.ifCond .gt 11, 3) := by decide +kernel
theorem dX5_sells_90 : decode cX5_sells 90 = .ok (.aload_n 0, 1) := by decide +kernel
theorem dX5_sells_91 : decode cX5_sells 91 = .ok (.bipush 11, 2) := by decide +kernel
theorem dX5_sells_93 : decode cX5_sells 93 = .ok (.iload_n 3, 1) := by decide +kernel
theorem dX5_sells_94 : decode cX5_sells 94 = .ok (.invokevirtual 102, 3) := by decide +kernel
theorem dX5_sells_97 : decode cX5_sells 97 = .ok (.ireturn, 1) := by decide +kernel
theorem dX5_sells_98 : decode cX5_sells 98 = .ok (.aload_n 0, 1) := by decide +kernel
theorem dX5_sells_99 : decode cX5_sells 99 = .ok (.iload_n 1, 1) := by decide +kernel
theorem dX5_sells_100 : decode cX5_sells 100 = .ok (.invokevirtual 142, 3) := by decide +kernel
theorem dX5_sells_103 : decode cX5_sells 103 = .ok (.istore_n 3, 1) := by decide +kernel
theorem dX5_sells_104 : decode cX5_sells 104 = .ok (.aload_n 0, 1) := by decide +kernel
theorem dX5_sells_105 : decode cX5_sells 105 = .ok (.iload_n 2, 1) := by decide +kernel
theorem dX5_sells_106 : decode cX5_sells 106 = .ok (.aload_n 0, 1) := by decide +kernel
theorem dX5_sells_107 : decode cX5_sells 107 = .ok (.iload_n 1, 1) := by decide +kernel
theorem dX5_sells_108 : decode cX5_sells 108 = .ok (.iconst 2, 1) := by decide +kernel
theorem dX5_sells_109 : decode cX5_sells 109 = .ok (.invokevirtual 77, 3) := by decide +kernel
theorem dX5_sells_112 : decode cX5_sells 112 = .ok (.iconst 1, 1) := by decide +kernel
theorem dX5_sells_113 : decode cX5_sells 113 = .ok (.isub, 1) := by decide +kernel
theorem dX5_sells_114 : decode cX5_sells 114 = .ok (.iload 4, 2) := by decide +kernel
theorem dX5_sells_116 : decode cX5_sells 116 = .ok (.invokevirtual 154, 3) := by decide +kernel
theorem dX5_sells_119 : decode cX5_sells 119 = .ok (.istore 5, 2) := by decide +kernel
theorem dX5_sells_121 : decode cX5_sells 121 = .ok (.aload_n 0, 1) := by decide +kernel
theorem dX5_sells_122 : decode cX5_sells 122 = .ok (.getfield 9, 3) := by decide +kernel
theorem dX5_sells_125 : decode cX5_sells 125 = .ok (.iconst 2, 1) := by decide +kernel
theorem dX5_sells_126 : decode cX5_sells 126 = .ok (.dup2, 1) := by decide +kernel
theorem dX5_sells_127 : decode cX5_sells 127 = .ok (.iaload, 1) := by decide +kernel
theorem dX5_sells_128 : decode cX5_sells 128 = .ok (.iload 5, 2) := by decide +kernel
theorem dX5_sells_130 : decode cX5_sells 130 = .ok (.iadd, 1) := by decide +kernel
theorem dX5_sells_131 : decode cX5_sells 131 = .ok (.iastore, 1) := by decide +kernel
theorem dX5_sells_132 : decode cX5_sells 132 = .ok (.aload_n 0, 1) := by decide +kernel
theorem dX5_sells_133 : decode cX5_sells 133 = .ok (.getfield 9, 3) := by decide +kernel
theorem dX5_sells_136 : decode cX5_sells 136 = .ok (.bipush 9, 2) := by decide +kernel
theorem dX5_sells_138 : decode cX5_sells 138 = .ok (.dup2, 1) := by decide +kernel
theorem dX5_sells_139 : decode cX5_sells 139 = .ok (.iaload, 1) := by decide +kernel
theorem dX5_sells_140 : decode cX5_sells 140 = .ok (.iload 5, 2) := by decide +kernel
theorem dX5_sells_142 : decode cX5_sells 142 = .ok (.iadd, 1) := by decide +kernel
theorem dX5_sells_143 : decode cX5_sells 143 = .ok (.iastore, 1) := by decide +kernel
theorem dX5_sells_144 : decode cX5_sells 144 = .ok (.aload_n 0, 1) := by decide +kernel
theorem dX5_sells_145 : decode cX5_sells 145 = .ok (.getfield 9, 3) := by decide +kernel
theorem dX5_sells_148 : decode cX5_sells 148 = .ok (.bipush 6, 2) := by decide +kernel
theorem dX5_sells_150 : decode cX5_sells 150 = .ok (.dup2, 1) := by decide +kernel
theorem dX5_sells_151 : decode cX5_sells 151 = .ok (.iaload, 1) := by decide +kernel
theorem dX5_sells_152 : decode cX5_sells 152 = .ok (.aload_n 0, 1) := by decide +kernel
theorem dX5_sells_153 : decode cX5_sells 153 = .ok (.iload_n 1, 1) := by decide +kernel
theorem dX5_sells_154 : decode cX5_sells 154 = .ok (.iconst 3, 1) := by decide +kernel
theorem dX5_sells_155 : decode cX5_sells 155 = .ok (.invokevirtual 77, 3) := by decide +kernel
theorem dX5_sells_158 : decode cX5_sells 158 = .ok (.iadd, 1) := by decide +kernel
theorem dX5_sells_159 : decode cX5_sells 159 = .ok (.iastore, 1) := by decide +kernel
theorem dX5_sells_160 : decode cX5_sells 160 = .ok (.aload_n 0, 1) := by decide +kernel
theorem dX5_sells_161 : decode cX5_sells 161 = .ok (.getfield 9, 3) := by decide +kernel
theorem dX5_sells_164 : decode cX5_sells 164 = .ok (.bipush 7, 2) := by decide +kernel
theorem dX5_sells_166 : decode cX5_sells 166 = .ok (.dup2, 1) := by decide +kernel
theorem dX5_sells_167 : decode cX5_sells 167 = .ok (.iaload, 1) := by decide +kernel
theorem dX5_sells_168 : decode cX5_sells 168 = .ok (.iload 4, 2) := by decide +kernel
theorem dX5_sells_170 : decode cX5_sells 170 = .ok (.iadd, 1) := by decide +kernel
theorem dX5_sells_171 : decode cX5_sells 171 = .ok (.iastore, 1) := by decide +kernel
theorem dX5_sells_172 : decode cX5_sells 172 = .ok (.aload_n 0, 1) := by decide +kernel
theorem dX5_sells_173 : decode cX5_sells 173 = .ok (.getfield 9, 3) := by decide +kernel
theorem dX5_sells_176 : decode cX5_sells 176 = .ok (.bipush 8, 2) := by decide +kernel
theorem dX5_sells_178 : decode cX5_sells 178 = .ok (.dup2, 1) := by decide +kernel
theorem dX5_sells_179 : decode cX5_sells 179 = .ok (.iaload, 1) := by decide +kernel
theorem dX5_sells_180 : decode cX5_sells 180 = .ok (.iconst 1, 1) := by decide +kernel
theorem dX5_sells_181 : decode cX5_sells 181 = .ok (.iadd, 1) := by decide +kernel
theorem dX5_sells_182 : decode cX5_sells 182 = .ok (.iastore, 1) := by decide +kernel
theorem dX5_sells_183 : decode cX5_sells 183 = .ok (.aload_n 0, 1) := by decide +kernel
theorem dX5_sells_184 : decode cX5_sells 184 = .ok (.iload_n 1, 1) := by decide +kernel
theorem dX5_sells_185 : decode cX5_sells 185 = .ok (.invokevirtual 123, 3) := by decide +kernel
theorem dX5_sells_188 : decode cX5_sells 188 = .ok (.aload_n 0, 1) := by decide +kernel
theorem dX5_sells_189 : decode cX5_sells 189 = .ok (.iload 5, 2) := by decide +kernel
theorem dX5_sells_191 : decode cX5_sells 191 = .ok (.invokevirtual 117, 3) := by decide +kernel
theorem dX5_sells_194 : decode cX5_sells 194 = .ok (.ireturn, 1) := by decide +kernel
theorem dX5_sell_0 : decode cX5_sell 0 = .ok (.aload_n 0, 1) := by decide +kernel
theorem dX5_sell_1 : decode cX5_sell 1 = .ok (.invokevirtual 99, 3) := by decide +kernel
theorem dX5_sell_4 : decode cX5_sell 4 = .ok (.aload_n 0, 1) := by decide +kernel
theorem dX5_sell_5 : decode cX5_sell 5 = .ok (.aload_n 0, 1) := by decide +kernel
theorem dX5_sell_6 : decode cX5_sell 6 = .ok (.iload_n 1, 1) := by decide +kernel
theorem dX5_sell_7 : decode cX5_sell 7 = .ok (.invokevirtual 158, 3) := by decide +kernel
theorem dX5_sell_10 : decode cX5_sell 10 = .ok (.invokevirtual 106, 3) := by decide +kernel
theorem dX5_sell_13 : decode cX5_sell 13 = .ok (.ireturn, 1) := by decide +kernel
theorem dX5_swears__0 : decode cX5_swears_ 0 = .ok (.aload_n 0, 1) := by decide +kernel
theorem dX5_swears__1 : decode cX5_swears_ 1 = .ok (.getfield 9, 3) := by decide +kernel
theorem dX5_swears__4 : decode cX5_swears_ 4 = .ok (.iconst 1, 1) := by decide +kernel
theorem dX5_swears__5 : decode cX5_swears_ 5 = .ok (.iaload, 1) := by decide +kernel
theorem dX5_swears__6 : decode cX5_swears_ 6 = .ok (.istore_n 1, 1) := by decide +kernel
theorem dX5_swears__7 : decode cX5_swears_ 7 = .ok (.aload_n 0, 1) := by decide +kernel
theorem dX5_swears__8 : decode cX5_swears_ 8 = .ok (.iload_n 1, 1) := by decide +kernel
theorem dX5_swears__9 : decode cX5_swears_ 9 = .ok (.invokevirtual 133, 3) := by decide +kernel
theorem dX5_swears__12 : decode cX5_swears_ 12 = .ok (.ifCond .eq 10, 3) := by decide +kernel
theorem dX5_swears__15 : decode cX5_swears_ 15 = .ok (.aload_n 0, 1) := by decide +kernel
theorem dX5_swears__16 : decode cX5_swears_ 16 = .ok (.bipush 8, 2) := by decide +kernel
theorem dX5_swears__18 : decode cX5_swears_ 18 = .ok (.invokevirtual 136, 3) := by decide +kernel
theorem dX5_swears__21 : decode cX5_swears_ 21 = .ok (.ireturn, 1) := by decide +kernel
theorem dX5_swears__22 : decode cX5_swears_ 22 = .ok (.aload_n 0, 1) := by decide +kernel
theorem dX5_swears__23 : decode cX5_swears_ 23 = .ok (.getfield 9, 3) := by decide +kernel
theorem dX5_swears__26 : decode cX5_swears_ 26 = .ok (.iconst 3, 1) := by decide +kernel
theorem dX5_swears__27 : decode cX5_swears_ 27 = .ok (.iaload, 1) := by decide +kernel
theorem dX5_swears__28 : decode cX5_swears_ 28 = .ok (.ifCond .le 16, 3) := by decide +kernel
theorem dX5_swears__31 : decode cX5_swears_ 31 = .ok (.aload_n 0, 1) := by decide +kernel
theorem dX5_swears__32 : decode cX5_swears_ 32 = .ok (.bipush 9, 2) := by decide +kernel
theorem dX5_swears__34 : decode cX5_swears_ 34 = .ok (.aload_n 0, 1) := by decide +kernel
theorem dX5_swears__35 : decode cX5_swears_ 35 = .ok (.getfield 9, 3) := by decide +kernel
theorem dX5_swears__38 : decode cX5_swears_ 38 = .ok (.iconst 3, 1) := by decide +kernel
theorem dX5_swears__39 : decode cX5_swears_ 39 = .ok (.iaload, 1) := by decide +kernel
theorem dX5_swears__40 : decode cX5_swears_ 40 = .ok (.invokevirtual 102, 3) := by decide +kernel
theorem dX5_swears__43 : decode cX5_swears_ 43 = .ok (.ireturn, 1) := by decide +kernel
theorem dX5_swears__44 : decode cX5_swears_ 44 = .ok (.aload_n 0, 1) := by decide +kernel
theorem dX5_swears__45 : decode cX5_swears_ 45 = .ok (.getfield 9, 3) := by decide +kernel
theorem dX5_swears__48 : decode cX5_swears_ 48 = .ok (.bipush 10, 2) := by decide +kernel
theorem dX5_swears__50 : decode cX5_swears_ 50 = .ok (.iload_n 1, 1) := by decide +kernel
theorem dX5_swears__51 : decode cX5_swears_ 51 = .ok (.iadd, 1) := by decide +kernel
theorem dX5_swears__52 : decode cX5_swears_ 52 = .ok (.aload_n 0, 1) := by decide +kernel
theorem dX5_swears__53 : decode cX5_swears_ 53 = .ok (.getfield 9, 3) := by decide +kernel
theorem dX5_swears__56 : decode cX5_swears_ 56 = .ok (.iconst 0, 1) := by decide +kernel
theorem dX5_swears__57 : decode cX5_swears_ 57 = .ok (.iaload, 1) := by decide +kernel
theorem dX5_swears__58 : decode cX5_swears_ 58 = .ok (.bipush 20, 2) := by decide +kernel
theorem dX5_swears__60 : decode cX5_swears_ 60 = .ok (.iadd, 1) := by decide +kernel
theorem dX5_swears__61 : decode cX5_swears_ 61 = .ok (.iastore, 1) := by decide +kernel
theorem dX5_swears__62 : decode cX5_swears_ 62 = .ok (.aload_n 0, 1) := by decide +kernel
theorem dX5_swears__63 : decode cX5_swears_ 63 = .ok (.aload_n 0, 1) := by decide +kernel
theorem dX5_swears__64 : decode cX5_swears_ 64 = .ok (.getfield 9, 3) := by decide +kernel
theorem dX5_swears__67 : decode cX5_swears_ 67 = .ok (.iconst 0, 1) := by decide +kernel
theorem dX5_swears__68 : decode cX5_swears_ 68 = .ok (.iaload, 1) := by decide +kernel
theorem dX5_swears__69 : decode cX5_swears_ 69 = .ok (.bipush 19, 2) := by decide +kernel
theorem dX5_swears__71 : decode cX5_swears_ 71 = .ok (.iadd, 1) := by decide +kernel
theorem dX5_swears__72 : decode cX5_swears_ 72 = .ok (.invokevirtual 117, 3) := by decide +kernel
theorem dX5_swears__75 : decode cX5_swears_ 75 = .ok (.ireturn, 1) := by decide +kernel
theorem dX5_oath_0 : decode cX5_oath 0 = .ok (.aload_n 0, 1) := by decide +kernel
theorem dX5_oath_1 : decode cX5_oath 1 = .ok (.invokevirtual 99, 3) := by decide +kernel
theorem dX5_oath_4 : decode cX5_oath 4 = .ok (.aload_n 0, 1) := by decide +kernel
theorem dX5_oath_5 : decode cX5_oath 5 = .ok (.aload_n 0, 1) := by decide +kernel
theorem dX5_oath_6 : decode cX5_oath 6 = .ok (.invokevirtual 161, 3) := by decide +kernel
theorem dX5_oath_9 : decode cX5_oath 9 = .ok (.invokevirtual 106, 3) := by decide +kernel
theorem dX5_oath_12 : decode cX5_oath 12 = .ok (.ireturn, 1) := by decide +kernel
theorem dX5_passes_0 : decode cX5_passes 0 = .ok (.aload_n 0, 1) := by decide +kernel
theorem dX5_passes_1 : decode cX5_passes 1 = .ok (.getfield 9, 3) := by decide +kernel
theorem dX5_passes_4 : decode cX5_passes 4 = .ok (.iconst 0, 1) := by decide +kernel
theorem dX5_passes_5 : decode cX5_passes 5 = .ok (.dup2, 1) := by decide +kernel
theorem dX5_passes_6 : decode cX5_passes 6 = .ok (.iaload, 1) := by decide +kernel
theorem dX5_passes_7 : decode cX5_passes 7 = .ok (.iload_n 1, 1) := by decide +kernel
theorem dX5_passes_8 : decode cX5_passes 8 = .ok (.iadd, 1) := by decide +kernel
theorem dX5_passes_9 : decode cX5_passes 9 = .ok (.iastore, 1) := by decide +kernel
theorem dX5_passes_10 : decode cX5_passes 10 = .ok (.iconst 0, 1) := by decide +kernel
theorem dX5_passes_11 : decode cX5_passes 11 = .ok (.istore_n 2, 1) := by decide +kernel
theorem dX5_passes_12 : decode cX5_passes 12 = .ok (.iload_n 2, 1) := by decide +kernel
theorem dX5_passes_13 : decode cX5_passes 13 = .ok (.aload_n 0, 1) := by decide +kernel
theorem dX5_passes_14 : decode cX5_passes 14 = .ok (.getfield 9, 3) := by decide +kernel
theorem dX5_passes_17 : decode cX5_passes 17 = .ok (.iconst 5, 1) := by decide +kernel
theorem dX5_passes_18 : decode cX5_passes 18 = .ok (.iaload, 1) := by decide +kernel
theorem dX5_passes_19 : decode cX5_passes 19 = .ok (.if_icmp .ge 28, 3) := by decide +kernel
theorem dX5_passes_22 : decode cX5_passes 22 = .ok (.aload_n 0, 1) := by decide +kernel
theorem dX5_passes_23 : decode cX5_passes 23 = .ok (.iload_n 2, 1) := by decide +kernel
theorem dX5_passes_24 : decode cX5_passes 24 = .ok (.iconst 1, 1) := by decide +kernel
theorem dX5_passes_25 : decode cX5_passes 25 = .ok (.bipush 20, 2) := by decide +kernel
theorem dX5_passes_27 : decode cX5_passes 27 = .ok (.aload_n 0, 1) := by decide +kernel
theorem dX5_passes_28 : decode cX5_passes 28 = .ok (.iload_n 2, 1) := by decide +kernel
theorem dX5_passes_29 : decode cX5_passes 29 = .ok (.iconst 1, 1) := by decide +kernel
theorem dX5_passes_30 : decode cX5_passes 30 = .ok (.invokevirtual 77, 3) := by decide +kernel
theorem dX5_passes_33 : decode cX5_passes 33 = .ok (.iload_n 1, 1) := by decide +kernel
theorem dX5_passes_34 : decode cX5_passes 34 = .ok (.iadd, 1) := by decide +kernel
theorem dX5_passes_35 : decode cX5_passes 35 = .ok (.invokestatic 67, 3) := by decide +kernel
theorem dX5_passes_38 : decode cX5_passes 38 = .ok (.invokevirtual 95, 3) := by decide +kernel
theorem dX5_passes_41 : decode cX5_passes 41 = .ok (.iinc 2 1, 3) := by decide +kernel
theorem dX5_passes_44 : decode cX5_passes 44 = .ok (.goto (-32), 3) := by decide +kernel
theorem dX5_passes_47 : decode cX5_passes 47 = .ok (.return_, 1) := by decide +kernel
theorem dX5_goes_0 : decode cX5_goes 0 = .ok (.iload_n 1, 1) := by decide +kernel
theorem dX5_goes_1 : decode cX5_goes 1 = .ok (.invokestatic 164, 3) := by decide +kernel
theorem dX5_goes_4 : decode cX5_goes 4 = .ok (.ifCond .ne 10, 3) := by decide +kernel
theorem dX5_goes_7 : decode cX5_goes 7 = .ok (.aload_n 0, 1) := by decide +kernel
theorem dX5_goes_8 : decode cX5_goes 8 = .ok (.iconst 3, 1) := by decide +kernel
theorem dX5_goes_9 : decode cX5_goes 9 = .ok (.iload_n 1, 1) := by decide +kernel
theorem dX5_goes_10 : decode cX5_goes 10 = .ok (.invokevirtual 102, 3) := by decide +kernel
theorem dX5_goes_13 : decode cX5_goes 13 = .ok (.ireturn, 1) := by decide +kernel
theorem dX5_goes_14 : decode cX5_goes 14 = .ok (.iload_n 1, 1) := by decide +kernel
theorem dX5_goes_15 : decode cX5_goes 15 = .ok (.aload_n 0, 1) := by decide +kernel
theorem dX5_goes_16 : decode cX5_goes 16 = .ok (.getfield 9, 3) := by decide +kernel
theorem dX5_goes_19 : decode cX5_goes 19 = .ok (.iconst 1, 1) := by decide +kernel
theorem dX5_goes_20 : decode cX5_goes 20 = .ok (.iaload, 1) := by decide +kernel
theorem dX5_goes_21 : decode cX5_goes 21 = .ok (.if_icmp .ne 11, 3) := by decide +kernel
theorem dX5_goes_24 : decode cX5_goes 24 = .ok (.aload_n 0, 1) := by decide +kernel
theorem dX5_goes_25 : decode cX5_goes 25 = .ok (.bipush 13, 2) := by decide +kernel
theorem dX5_goes_27 : decode cX5_goes 27 = .ok (.iload_n 1, 1) := by decide +kernel
theorem dX5_goes_28 : decode cX5_goes 28 = .ok (.invokevirtual 102, 3) := by decide +kernel
theorem dX5_goes_31 : decode cX5_goes 31 = .ok (.ireturn, 1) := by decide +kernel
theorem dX5_goes_32 : decode cX5_goes 32 = .ok (.aload_n 0, 1) := by decide +kernel
theorem dX5_goes_33 : decode cX5_goes 33 = .ok (.iload_n 1, 1) := by decide +kernel
theorem dX5_goes_34 : decode cX5_goes 34 = .ok (.invokestatic 167, 3) := by decide +kernel
theorem dX5_goes_37 : decode cX5_goes 37 = .ok (.aload_n 0, 1) := by decide +kernel
theorem dX5_goes_38 : decode cX5_goes 38 = .ok (.getfield 9, 3) := by decide +kernel
theorem dX5_goes_41 : decode cX5_goes 41 = .ok (.iconst 1, 1) := by decide +kernel
theorem dX5_goes_42 : decode cX5_goes 42 = .ok (.iaload, 1) := by decide +kernel
theorem dX5_goes_43 : decode cX5_goes 43 = .ok (.invokestatic 167, 3) := by decide +kernel
theorem dX5_goes_46 : decode cX5_goes 46 = .ok (.isub, 1) := by decide +kernel
theorem dX5_goes_47 : decode cX5_goes 47 = .ok (.invokestatic 170, 3) := by decide +kernel
theorem dX5_goes_50 : decode cX5_goes 50 = .ok (.invokevirtual 173, 3) := by decide +kernel
theorem dX5_goes_53 : decode cX5_goes 53 = .ok (.aload_n 0, 1) := by decide +kernel
theorem dX5_goes_54 : decode cX5_goes 54 = .ok (.getfield 9, 3) := by decide +kernel
theorem dX5_goes_57 : decode cX5_goes 57 = .ok (.iconst 1, 1) := by decide +kernel
theorem dX5_goes_58 : decode cX5_goes 58 = .ok (.iload_n 1, 1) := by decide +kernel
theorem dX5_goes_59 : decode cX5_goes 59 = .ok (.iastore, 1) := by decide +kernel
theorem dX5_goes_60 : decode cX5_goes 60 = .ok (.aload_n 0, 1) := by decide +kernel
theorem dX5_goes_61 : decode cX5_goes 61 = .ok (.iload_n 1, 1) := by decide +kernel
theorem dX5_goes_62 : decode cX5_goes 62 = .ok (.invokevirtual 133, 3) := by decide +kernel
theorem dX5_goes_65 : decode cX5_goes 65 = .ok (.ifCond .eq 10, 3) := by decide +kernel
theorem dX5_goes_68 : decode cX5_goes 68 = .ok (.aload_n 0, 1) := by decide +kernel
theorem dX5_goes_69 : decode cX5_goes 69 = .ok (.getfield 9, 3) := by decide +kernel
theorem dX5_goes_72 : decode cX5_goes 72 = .ok (.iconst 3, 1) := by decide +kernel
theorem dX5_goes_73 : decode cX5_goes 73 = .ok (.iconst 0, 1) := by decide +kernel
theorem dX5_goes_74 : decode cX5_goes 74 = .ok (.iastore, 1) := by decide +kernel
theorem dX5_goes_75 : decode cX5_goes 75 = .ok (.aload_n 0, 1) := by decide +kernel
theorem dX5_goes_76 : decode cX5_goes 76 = .ok (.aload_n 0, 1) := by decide +kernel
theorem dX5_goes_77 : decode cX5_goes 77 = .ok (.getfield 9, 3) := by decide +kernel
theorem dX5_goes_80 : decode cX5_goes 80 = .ok (.iconst 0, 1) := by decide +kernel
theorem dX5_goes_81 : decode cX5_goes 81 = .ok (.iaload, 1) := by decide +kernel
theorem dX5_goes_82 : decode cX5_goes 82 = .ok (.invokevirtual 117, 3) := by decide +kernel
theorem dX5_goes_85 : decode cX5_goes 85 = .ok (.ireturn, 1) := by decide +kernel
theorem dX5_go_0 : decode cX5_go 0 = .ok (.aload_n 0, 1) := by decide +kernel
theorem dX5_go_1 : decode cX5_go 1 = .ok (.invokevirtual 99, 3) := by decide +kernel
theorem dX5_go_4 : decode cX5_go 4 = .ok (.aload_n 0, 1) := by decide +kernel
theorem dX5_go_5 : decode cX5_go 5 = .ok (.aload_n 0, 1) := by decide +kernel
theorem dX5_go_6 : decode cX5_go 6 = .ok (.iload_n 1, 1) := by decide +kernel
theorem dX5_go_7 : decode cX5_go 7 = .ok (.invokevirtual 176, 3) := by decide +kernel
theorem dX5_go_10 : decode cX5_go 10 = .ok (.invokevirtual 106, 3) := by decide +kernel
theorem dX5_go_13 : decode cX5_go 13 = .ok (.ireturn, 1) := by decide +kernel
theorem dX5_seals_0 : decode cX5_seals 0 = .ok (.iload_n 1, 1) := by decide +kernel
theorem dX5_seals_1 : decode cX5_seals 1 = .ok (.invokestatic 179, 3) := by decide +kernel
theorem dX5_seals_4 : decode cX5_seals 4 = .ok (.ifCond .ne 10, 3) := by decide +kernel
theorem dX5_seals_7 : decode cX5_seals 7 = .ok (.aload_n 0, 1) := by decide +kernel
theorem dX5_seals_8 : decode cX5_seals 8 = .ok (.iconst 3, 1) := by decide +kernel
theorem dX5_seals_9 : decode cX5_seals 9 = .ok (.iload_n 1, 1) := by decide +kernel
theorem dX5_seals_10 : decode cX5_seals 10 = .ok (.invokevirtual 102, 3) := by decide +kernel
theorem dX5_seals_13 : decode cX5_seals 13 = .ok (.ireturn, 1) := by decide +kernel
theorem dX5_seals_14 : decode cX5_seals 14 = .ok (.aload_n 0, 1) := by decide +kernel
theorem dX5_seals_15 : decode cX5_seals 15 = .ok (.getfield 9, 3) := by decide +kernel
theorem dX5_seals_18 : decode cX5_seals 18 = .ok (.iconst 2, 1) := by decide +kernel
theorem dX5_seals_19 : decode cX5_seals 19 = .ok (.iaload, 1) := by decide +kernel
theorem dX5_seals_20 : decode cX5_seals 20 = .ok (.iconst 2, 1) := by decide +kernel
theorem dX5_seals_21 : decode cX5_seals 21 = .ok (.if_icmp .ge 18, 3) := by decide +kernel
theorem dX5_seals_24 : decode cX5_seals 24 = .ok (.aload_n 0, 1) := by decide +kernel
theorem dX5_seals_25 : decode cX5_seals 25 = .ok (.bipush 12, 2) := by decide +kernel
theorem dX5_seals_27 : decode cX5_seals 27 = .ok (.iconst 2, 1) := by decide +kernel
theorem dX5_seals_28 : decode cX5_seals 28 = .ok (.aload_n 0, 1) := by decide +kernel
theorem dX5_seals_29 : decode cX5_seals 29 = .ok (.getfield 9, 3) := by decide +kernel
theorem dX5_seals_32 : decode cX5_seals 32 = .ok (.iconst 2, 1) := by decide +kernel
theorem dX5_seals_33 : decode cX5_seals 33 = .ok (.iaload, 1) := by decide +kernel
theorem dX5_seals_34 : decode cX5_seals 34 = .ok (.isub, 1) := by decide +kernel
theorem dX5_seals_35 : decode cX5_seals 35 = .ok (.invokevirtual 102, 3) := by decide +kernel
theorem dX5_seals_38 : decode cX5_seals 38 = .ok (.ireturn, 1) := by decide +kernel
theorem dX5_seals_39 : decode cX5_seals 39 = .ok (.aload_n 0, 1) := by decide +kernel
theorem dX5_seals_40 : decode cX5_seals 40 = .ok (.iload_n 1, 1) := by decide +kernel
theorem dX5_seals_41 : decode cX5_seals 41 = .ok (.invokevirtual 86, 3) := by decide +kernel
theorem dX5_seals_44 : decode cX5_seals 44 = .ok (.istore_n 2, 1) := by decide +kernel
theorem dX5_seals_45 : decode cX5_seals 45 = .ok (.aload_n 0, 1) := by decide +kernel
theorem dX5_seals_46 : decode cX5_seals 46 = .ok (.getfield 9, 3) := by decide +kernel
theorem dX5_seals_49 : decode cX5_seals 49 = .ok (.iconst 2, 1) := by decide +kernel
theorem dX5_seals_50 : decode cX5_seals 50 = .ok (.dup2, 1) := by decide +kernel
theorem dX5_seals_51 : decode cX5_seals 51 = .ok (.iaload, 1) := by decide +kernel
theorem dX5_seals_52 : decode cX5_seals 52 = .ok (.iconst 2, 1) := by decide +kernel
theorem dX5_seals_53 : decode cX5_seals 53 = .ok (.isub, 1) := by decide +kernel
theorem dX5_seals_54 : decode cX5_seals 54 = .ok (.iastore, 1) := by decide +kernel
theorem dX5_seals_55 : decode cX5_seals 55 = .ok (.aload_n 0, 1) := by decide +kernel
theorem dX5_seals_56 : decode cX5_seals 56 = .ok (.getfield 9, 3) := by decide +kernel
theorem dX5_seals_59 : decode cX5_seals 59 = .ok (.bipush 14, 2) := by decide +kernel
theorem dX5_seals_61 : decode cX5_seals 61 = .ok (.iload_n 1, 1) := by decide +kernel
theorem dX5_seals_62 : decode cX5_seals 62 = .ok (.iadd, 1) := by decide +kernel
theorem dX5_seals_63 : decode cX5_seals 63 = .ok (.iconst 0, 1) := by decide +kernel
theorem dX5_seals_64 : decode cX5_seals 64 = .ok (.iastore, 1) := by decide +kernel
theorem dX5_seals_65 : decode cX5_seals 65 = .ok (.aload_n 0, 1) := by decide +kernel
theorem dX5_seals_66 : decode cX5_seals 66 = .ok (.iload_n 2, 1) := by decide +kernel
theorem dX5_seals_67 : decode cX5_seals 67 = .ok (.invokevirtual 117, 3) := by decide +kernel
theorem dX5_seals_70 : decode cX5_seals 70 = .ok (.ireturn, 1) := by decide +kernel
theorem dX5_seal_0 : decode cX5_seal 0 = .ok (.aload_n 0, 1) := by decide +kernel
theorem dX5_seal_1 : decode cX5_seal 1 = .ok (.invokevirtual 99, 3) := by decide +kernel
theorem dX5_seal_4 : decode cX5_seal 4 = .ok (.aload_n 0, 1) := by decide +kernel
theorem dX5_seal_5 : decode cX5_seal 5 = .ok (.aload_n 0, 1) := by decide +kernel
theorem dX5_seal_6 : decode cX5_seal 6 = .ok (.iload_n 1, 1) := by decide +kernel
theorem dX5_seal_7 : decode cX5_seal 7 = .ok (.invokevirtual 182, 3) := by decide +kernel
theorem dX5_seal_10 : decode cX5_seal 10 = .ok (.invokevirtual 106, 3) := by decide +kernel
theorem dX5_seal_13 : decode cX5_seal 13 = .ok (.ireturn, 1) := by decide +kernel
theorem dX5_dust_0 : decode cX5_dust 0 = .ok (.iconst 0, 1) := by decide +kernel
theorem dX5_dust_1 : decode cX5_dust 1 = .ok (.istore_n 1, 1) := by decide +kernel
theorem dX5_dust_2 : decode cX5_dust 2 = .ok (.iconst 0, 1) := by decide +kernel
theorem dX5_dust_3 : decode cX5_dust 3 = .ok (.istore_n 2, 1) := by decide +kernel
theorem dX5_dust_4 : decode cX5_dust 4 = .ok (.iload_n 2, 1) := by decide +kernel
theorem dX5_dust_5 : decode cX5_dust 5 = .ok (.aload_n 0, 1) := by decide +kernel
theorem dX5_dust_6 : decode cX5_dust 6 = .ok (.getfield 9, 3) := by decide +kernel
theorem dX5_dust_9 : decode cX5_dust 9 = .ok (.iconst 5, 1) := by decide +kernel
theorem dX5_dust_10 : decode cX5_dust 10 = .ok (.iaload, 1) := by decide +kernel
theorem dX5_dust_11 : decode cX5_dust 11 = .ok (.if_icmp .ge 18, 3) := by decide +kernel
theorem dX5_dust_14 : decode cX5_dust 14 = .ok (.iload_n 1, 1) := by decide +kernel
theorem dX5_dust_15 : decode cX5_dust 15 = .ok (.aload_n 0, 1) := by decide +kernel
theorem dX5_dust_16 : decode cX5_dust 16 = .ok (.iload_n 2, 1) := by decide +kernel
theorem dX5_dust_17 : decode cX5_dust 17 = .ok (.iconst 1, 1) := by decide +kernel
theorem dX5_dust_18 : decode cX5_dust 18 = .ok (.invokevirtual 77, 3) := by decide +kernel
theorem dX5_dust_21 : decode cX5_dust 21 = .ok (.iadd, 1) := by decide +kernel
theorem dX5_dust_22 : decode cX5_dust 22 = .ok (.istore_n 1, 1) := by decide +kernel
theorem dX5_dust_23 : decode cX5_dust 23 = .ok (.iinc 2 1, 3) := by decide +kernel
theorem dX5_dust_26 : decode cX5_dust 26 = .ok (.goto (-22), 3) := by decide +kernel
theorem dX5_dust_29 : decode cX5_dust 29 = .ok (.iload_n 1, 1) := by decide +kernel
theorem dX5_dust_30 : decode cX5_dust 30 = .ok (.ireturn, 1) := by decide +kernel
theorem dX5_rests_0 : decode cX5_rests 0 = .ok (.iload_n 1, 1) := by decide +kernel
theorem dX5_rests_1 : decode cX5_rests 1 = .ok (.iconst 1, 1) := by decide +kernel
theorem dX5_rests_2 : decode cX5_rests 2 = .ok (.bipush 60, 2) := by decide +kernel
theorem dX5_rests_4 : decode cX5_rests 4 = .ok (.invokestatic 73, 3) := by decide +kernel
theorem dX5_rests_7 : decode cX5_rests 7 = .ok (.ifCond .ne 10, 3) := by decide +kernel
theorem dX5_rests_10 : decode cX5_rests 10 = .ok (.aload_n 0, 1) := by decide +kernel
theorem dX5_rests_11 : decode cX5_rests 11 = .ok (.iconst 1, 1) := by decide +kernel
theorem dX5_rests_12 : decode cX5_rests 12 = .ok (.iconst 0, 1) := by decide +kernel
theorem dX5_rests_13 : decode cX5_rests 13 = .ok (.invokevirtual 102, 3) := by decide +kernel
theorem dX5_rests_16 : decode cX5_rests 16 = .ok (.ireturn, 1) := by decide +kernel
theorem dX5_rests_17 : decode cX5_rests 17 = .ok (.aload_n 0, 1) := by decide +kernel
theorem dX5_rests_18 : decode cX5_rests 18 = .ok (.iload_n 1, 1) := by decide +kernel
theorem dX5_rests_19 : decode cX5_rests 19 = .ok (.invokevirtual 173, 3) := by decide +kernel
theorem dX5_rests_22 : decode cX5_rests 22 = .ok (.aload_n 0, 1) := by decide +kernel
theorem dX5_rests_23 : decode cX5_rests 23 = .ok (.aload_n 0, 1) := by decide +kernel
theorem dX5_rests_24 : decode cX5_rests 24 = .ok (.invokevirtual 185, 3) := by decide +kernel
theorem dX5_rests_27 : decode cX5_rests 27 = .ok (.invokevirtual 117, 3) := by decide +kernel
theorem dX5_rests_30 : decode cX5_rests 30 = .ok (.ireturn, 1) := by decide +kernel
theorem dX5_days_0 : decode cX5_days 0 = .ok (.aload_n 0, 1) := by decide +kernel
theorem dX5_days_1 : decode cX5_days 1 = .ok (.invokevirtual 99, 3) := by decide +kernel
theorem dX5_days_4 : decode cX5_days 4 = .ok (.aload_n 0, 1) := by decide +kernel
theorem dX5_days_5 : decode cX5_days 5 = .ok (.aload_n 0, 1) := by decide +kernel
theorem dX5_days_6 : decode cX5_days 6 = .ok (.iload_n 1, 1) := by decide +kernel
theorem dX5_days_7 : decode cX5_days 7 = .ok (.invokevirtual 189, 3) := by decide +kernel
theorem dX5_days_10 : decode cX5_days 10 = .ok (.invokevirtual 106, 3) := by decide +kernel
theorem dX5_days_13 : decode cX5_days 13 = .ok (.ireturn, 1) := by decide +kernel
theorem dX5_jarOf_0 : decode cX5_jarOf 0 = .ok (.aload_n 0, 1) := by decide +kernel
theorem dX5_jarOf_1 : decode cX5_jarOf 1 = .ok (.iconst 0, 1) := by decide +kernel
theorem dX5_jarOf_2 : decode cX5_jarOf 2 = .ok (.putfield 36, 3) := by decide +kernel
theorem dX5_jarOf_5 : decode cX5_jarOf 5 = .ok (.aload_n 0, 1) := by decide +kernel
theorem dX5_jarOf_6 : decode cX5_jarOf 6 = .ok (.iload_n 1, 1) := by decide +kernel
theorem dX5_jarOf_7 : decode cX5_jarOf 7 = .ok (.invokevirtual 114, 3) := by decide +kernel
theorem dX5_jarOf_10 : decode cX5_jarOf 10 = .ok (.ifCond .eq 27, 3) := by decide +kernel
theorem dX5_jarOf_13 : decode cX5_jarOf 13 = .ok (.aload_n 0, 1) := by decide +kernel
theorem dX5_jarOf_14 : decode cX5_jarOf 14 = .ok (.getfield 9, 3) := by decide +kernel
theorem dX5_jarOf_17 : decode cX5_jarOf 17 = .ok (.bipush 22, 2) := by decide +kernel
theorem dX5_jarOf_19 : decode cX5_jarOf 19 = .ok (.iconst 2, 1) := by decide +kernel
theorem dX5_jarOf_20 : decode cX5_jarOf 20 = .ok (.iload_n 1, 1) := by decide +kernel
theorem dX5_jarOf_21 : decode cX5_jarOf 21 = .ok (.imul, 1) := by decide +kernel
theorem dX5_jarOf_22 : decode cX5_jarOf 22 = .ok (.iadd, 1) := by decide +kernel
theorem dX5_jarOf_23 : decode cX5_jarOf 23 = .ok (.iload_n 2, 1) := by decide +kernel
theorem dX5_jarOf_24 : decode cX5_jarOf 24 = .ok (.ifCond .eq 7, 3) := by decide +kernel
theorem dX5_jarOf_27 : decode cX5_jarOf 27 = .ok (.iconst 0, 1) := by decide +kernel
theorem dX5_jarOf_28 : decode cX5_jarOf 28 = .ok (.goto 4, 3) := by decide +kernel
theorem dX5_jarOf_31 : decode cX5_jarOf 31 = .ok (.iconst 1, 1) := by decide +kernel
theorem dX5_jarOf_32 : decode cX5_jarOf 32 = .ok (.iadd, 1) := by decide +kernel
theorem dX5_jarOf_33 : decode cX5_jarOf 33 = .ok (.iaload, 1) := by decide +kernel
theorem dX5_jarOf_34 : decode cX5_jarOf 34 = .ok (.goto 8, 3) := by decide +kernel
theorem dX5_jarOf_37 : decode cX5_jarOf 37 = .ok (.aload_n 0, 1) := by decide +kernel
theorem dX5_jarOf_38 : decode cX5_jarOf 38 = .ok (.iconst 1, 1) := by decide +kernel
theorem dX5_jarOf_39 : decode cX5_jarOf 39 = .ok (.invokevirtual 61, 3) := by decide +kernel
theorem dX5_jarOf_42 : decode cX5_jarOf 42 = .ok (.ireturn, 1) := by decide +kernel
theorem dX5_bagOf_0 : decode cX5_bagOf 0 = .ok (.aload_n 0, 1) := by decide +kernel
theorem dX5_bagOf_1 : decode cX5_bagOf 1 = .ok (.iconst 0, 1) := by decide +kernel
theorem dX5_bagOf_2 : decode cX5_bagOf 2 = .ok (.putfield 36, 3) := by decide +kernel
theorem dX5_bagOf_5 : decode cX5_bagOf 5 = .ok (.aload_n 0, 1) := by decide +kernel
theorem dX5_bagOf_6 : decode cX5_bagOf 6 = .ok (.iload_n 1, 1) := by decide +kernel
theorem dX5_bagOf_7 : decode cX5_bagOf 7 = .ok (.invokevirtual 110, 3) := by decide +kernel
theorem dX5_bagOf_10 : decode cX5_bagOf 10 = .ok (.ifCond .ne 9, 3) := by decide +kernel
theorem dX5_bagOf_13 : decode cX5_bagOf 13 = .ok (.aload_n 0, 1) := by decide +kernel
theorem dX5_bagOf_14 : decode cX5_bagOf 14 = .ok (.iconst 1, 1) := by decide +kernel
theorem dX5_bagOf_15 : decode cX5_bagOf 15 = .ok (.invokevirtual 61, 3) := by decide +kernel
theorem dX5_bagOf_18 : decode cX5_bagOf 18 = .ok (.ireturn, 1) := by decide +kernel
theorem dX5_bagOf_19 : decode cX5_bagOf 19 = .ok (.iload_n 2, 1) := by decide +kernel
theorem dX5_bagOf_20 : decode cX5_bagOf 20 = .ok (.tableswitch 69 0 5 #[40, 40, 47, 40, 56, 62], 40) := by decide +kernel
theorem dX5_bagOf_60 : decode cX5_bagOf 60 = .ok (.aload_n 0, 1) := by decide +kernel
theorem dX5_bagOf_61 : decode cX5_bagOf 61 = .ok (.iload_n 1, 1) := by decide +kernel
theorem dX5_bagOf_62 : decode cX5_bagOf 62 = .ok (.iload_n 2, 1) := by decide +kernel
theorem dX5_bagOf_63 : decode cX5_bagOf 63 = .ok (.invokevirtual 77, 3) := by decide +kernel
theorem dX5_bagOf_66 : decode cX5_bagOf 66 = .ok (.ireturn, 1) := by decide +kernel
theorem dX5_bagOf_67 : decode cX5_bagOf 67 = .ok (.aload_n 0, 1) := by decide +kernel
theorem dX5_bagOf_68 : decode cX5_bagOf 68 = .ok (.iload_n 1, 1) := by decide +kernel
theorem dX5_bagOf_69 : decode cX5_bagOf 69 = .ok (.iconst 2, 1) := by decide +kernel
theorem dX5_bagOf_70 : decode cX5_bagOf 70 = .ok (.invokevirtual 77, 3) := by decide +kernel
theorem dX5_bagOf_73 : decode cX5_bagOf 73 = .ok (.iconst 1, 1) := by decide +kernel
theorem dX5_bagOf_74 : decode cX5_bagOf 74 = .ok (.isub, 1) := by decide +kernel
theorem dX5_bagOf_75 : decode cX5_bagOf 75 = .ok (.ireturn, 1) := by decide +kernel
theorem dX5_bagOf_76 : decode cX5_bagOf 76 = .ok (.aload_n 0, 1) := by decide +kernel
theorem dX5_bagOf_77 : decode cX5_bagOf 77 = .ok (.iload_n 1, 1) := by decide +kernel
theorem dX5_bagOf_78 : decode cX5_bagOf 78 = .ok (.invokevirtual 89, 3) := by decide +kernel
theorem dX5_bagOf_81 : decode cX5_bagOf 81 = .ok (.ireturn, 1) := by decide +kernel
theorem dX5_bagOf_82 : decode cX5_bagOf 82 = .ok (.aload_n 0, 1) := by decide +kernel
theorem dX5_bagOf_83 : decode cX5_bagOf 83 = .ok (.iload_n 1, 1) := by decide +kernel
theorem dX5_bagOf_84 : decode cX5_bagOf 84 = .ok (.iconst 4, 1) := by decide +kernel
theorem dX5_bagOf_85 : decode cX5_bagOf 85 = .ok (.invokevirtual 77, 3) := by decide +kernel
theorem dX5_bagOf_88 : decode cX5_bagOf 88 = .ok (.ireturn, 1) := by decide +kernel
theorem dX5_bagOf_89 : decode cX5_bagOf 89 = .ok (.aload_n 0, 1) := by decide +kernel
theorem dX5_bagOf_90 : decode cX5_bagOf 90 = .ok (.iconst 2, 1) := by decide +kernel
theorem dX5_bagOf_91 : decode cX5_bagOf 91 = .ok (.invokevirtual 61, 3) := by decide +kernel
theorem dX5_bagOf_94 : decode cX5_bagOf 94 = .ok (.ireturn, 1) := by decide +kernel
theorem dX5_weightOf_0 : decode cX5_weightOf 0 = .ok (.aload_n 0, 1) := by decide +kernel
theorem dX5_weightOf_1 : decode cX5_weightOf 1 = .ok (.iconst 0, 1) := by decide +kernel
theorem dX5_weightOf_2 : decode cX5_weightOf 2 = .ok (.putfield 36, 3) := by decide +kernel
theorem dX5_weightOf_5 : decode cX5_weightOf 5 = .ok (.iload_n 1, 1) := by decide +kernel
theorem dX5_weightOf_6 : decode cX5_weightOf 6 = .ok (.invokestatic 179, 3) := by decide +kernel
theorem dX5_weightOf_9 : decode cX5_weightOf 9 = .ok (.ifCond .ne 9, 3) := by decide +kernel
theorem dX5_weightOf_12 : decode cX5_weightOf 12 = .ok (.aload_n 0, 1) := by decide +kernel
theorem dX5_weightOf_13 : decode cX5_weightOf 13 = .ok (.iconst 1, 1) := by decide +kernel
theorem dX5_weightOf_14 : decode cX5_weightOf 14 = .ok (.invokevirtual 61, 3) := by decide +kernel
theorem dX5_weightOf_17 : decode cX5_weightOf 17 = .ok (.ireturn, 1) := by decide +kernel
theorem dX5_weightOf_18 : decode cX5_weightOf 18 = .ok (.aload_n 0, 1) := by decide +kernel
theorem dX5_weightOf_19 : decode cX5_weightOf 19 = .ok (.getfield 9, 3) := by decide +kernel
theorem dX5_weightOf_22 : decode cX5_weightOf 22 = .ok (.bipush 14, 2) := by decide +kernel
theorem dX5_weightOf_24 : decode cX5_weightOf 24 = .ok (.iload_n 1, 1) := by decide +kernel
theorem dX5_weightOf_25 : decode cX5_weightOf 25 = .ok (.iadd, 1) := by decide +kernel
theorem dX5_weightOf_26 : decode cX5_weightOf 26 = .ok (.iaload, 1) := by decide +kernel
theorem dX5_weightOf_27 : decode cX5_weightOf 27 = .ok (.istore_n 3, 1) := by decide +kernel
theorem dX5_weightOf_28 : decode cX5_weightOf 28 = .ok (.iload_n 2, 1) := by decide +kernel
theorem dX5_weightOf_29 : decode cX5_weightOf 29 = .ok (.tableswitch 70 0 3 #[31, 36, 42, 44], 31) := by decide +kernel
theorem dX5_weightOf_60 : decode cX5_weightOf 60 = .ok (.iload_n 1, 1) := by decide +kernel
theorem dX5_weightOf_61 : decode cX5_weightOf 61 = .ok (.invokestatic 64, 3) := by decide +kernel
theorem dX5_weightOf_64 : decode cX5_weightOf 64 = .ok (.ireturn, 1) := by decide +kernel
theorem dX5_weightOf_65 : decode cX5_weightOf 65 = .ok (.aload_n 0, 1) := by decide +kernel
theorem dX5_weightOf_66 : decode cX5_weightOf 66 = .ok (.iload_n 1, 1) := by decide +kernel
theorem dX5_weightOf_67 : decode cX5_weightOf 67 = .ok (.invokevirtual 86, 3) := by decide +kernel
theorem dX5_weightOf_70 : decode cX5_weightOf 70 = .ok (.ireturn, 1) := by decide +kernel
theorem dX5_weightOf_71 : decode cX5_weightOf 71 = .ok (.iload_n 3, 1) := by decide +kernel
theorem dX5_weightOf_72 : decode cX5_weightOf 72 = .ok (.ireturn, 1) := by decide +kernel
theorem dX5_weightOf_73 : decode cX5_weightOf 73 = .ok (.iload_n 3, 1) := by decide +kernel
theorem dX5_weightOf_74 : decode cX5_weightOf 74 = .ok (.bipush 8, 2) := by decide +kernel
theorem dX5_weightOf_76 : decode cX5_weightOf 76 = .ok (.idiv, 1) := by decide +kernel
theorem dX5_weightOf_77 : decode cX5_weightOf 77 = .ok (.iload_n 1, 1) := by decide +kernel
theorem dX5_weightOf_78 : decode cX5_weightOf 78 = .ok (.invokestatic 64, 3) := by decide +kernel
theorem dX5_weightOf_81 : decode cX5_weightOf 81 = .ok (.bipush 10, 2) := by decide +kernel
theorem dX5_weightOf_83 : decode cX5_weightOf 83 = .ok (.idiv, 1) := by decide +kernel
theorem dX5_weightOf_84 : decode cX5_weightOf 84 = .ok (.if_icmp .ge 13, 3) := by decide +kernel
theorem dX5_weightOf_87 : decode cX5_weightOf 87 = .ok (.bipush 8, 2) := by decide +kernel
theorem dX5_weightOf_89 : decode cX5_weightOf 89 = .ok (.iload_n 3, 1) := by decide +kernel
theorem dX5_weightOf_90 : decode cX5_weightOf 90 = .ok (.bipush 8, 2) := by decide +kernel
theorem dX5_weightOf_92 : decode cX5_weightOf 92 = .ok (.irem, 1) := by decide +kernel
theorem dX5_weightOf_93 : decode cX5_weightOf 93 = .ok (.isub, 1) := by decide +kernel
theorem dX5_weightOf_94 : decode cX5_weightOf 94 = .ok (.goto 4, 3) := by decide +kernel
theorem dX5_weightOf_97 : decode cX5_weightOf 97 = .ok (.iconst (-1), 1) := by decide +kernel
theorem dX5_weightOf_98 : decode cX5_weightOf 98 = .ok (.ireturn, 1) := by decide +kernel
theorem dX5_weightOf_99 : decode cX5_weightOf 99 = .ok (.aload_n 0, 1) := by decide +kernel
theorem dX5_weightOf_100 : decode cX5_weightOf 100 = .ok (.iconst 2, 1) := by decide +kernel
theorem dX5_weightOf_101 : decode cX5_weightOf 101 = .ok (.invokevirtual 61, 3) := by decide +kernel
theorem dX5_weightOf_104 : decode cX5_weightOf 104 = .ok (.ireturn, 1) := by decide +kernel
theorem dX5_told_0 : decode cX5_told 0 = .ok (.aload_n 0, 1) := by decide +kernel
theorem dX5_told_1 : decode cX5_told 1 = .ok (.iconst 0, 1) := by decide +kernel
theorem dX5_told_2 : decode cX5_told 2 = .ok (.putfield 36, 3) := by decide +kernel
theorem dX5_told_5 : decode cX5_told 5 = .ok (.aload_n 0, 1) := by decide +kernel
theorem dX5_told_6 : decode cX5_told 6 = .ok (.iload_n 1, 1) := by decide +kernel
theorem dX5_told_7 : decode cX5_told 7 = .ok (.invokevirtual 110, 3) := by decide +kernel
theorem dX5_told_10 : decode cX5_told 10 = .ok (.ifCond .eq 15, 3) := by decide +kernel
theorem dX5_told_13 : decode cX5_told 13 = .ok (.aload_n 0, 1) := by decide +kernel
theorem dX5_told_14 : decode cX5_told 14 = .ok (.aload_n 0, 1) := by decide +kernel
theorem dX5_told_15 : decode cX5_told 15 = .ok (.iload_n 1, 1) := by decide +kernel
theorem dX5_told_16 : decode cX5_told 16 = .ok (.invokevirtual 89, 3) := by decide +kernel
theorem dX5_told_19 : decode cX5_told 19 = .ok (.invokevirtual 92, 3) := by decide +kernel
theorem dX5_told_22 : decode cX5_told 22 = .ok (.goto 8, 3) := by decide +kernel
theorem dX5_told_25 : decode cX5_told 25 = .ok (.aload_n 0, 1) := by decide +kernel
theorem dX5_told_26 : decode cX5_told 26 = .ok (.iconst 1, 1) := by decide +kernel
theorem dX5_told_27 : decode cX5_told 27 = .ok (.invokevirtual 61, 3) := by decide +kernel
theorem dX5_told_30 : decode cX5_told 30 = .ok (.ireturn, 1) := by decide +kernel
theorem dX5_toldAgain_0 : decode cX5_toldAgain 0 = .ok (.aload_n 0, 1) := by decide +kernel
theorem dX5_toldAgain_1 : decode cX5_toldAgain 1 = .ok (.iload_n 1, 1) := by decide +kernel
theorem dX5_toldAgain_2 : decode cX5_toldAgain 2 = .ok (.invokevirtual 192, 3) := by decide +kernel
theorem dX5_toldAgain_5 : decode cX5_toldAgain 5 = .ok (.ireturn, 1) := by decide +kernel
theorem dX5_onPan_0 : decode cX5_onPan 0 = .ok (.aload_n 0, 1) := by decide +kernel
theorem dX5_onPan_1 : decode cX5_onPan 1 = .ok (.iconst 0, 1) := by decide +kernel
theorem dX5_onPan_2 : decode cX5_onPan 2 = .ok (.putfield 36, 3) := by decide +kernel
theorem dX5_onPan_5 : decode cX5_onPan 5 = .ok (.aload_n 0, 1) := by decide +kernel
theorem dX5_onPan_6 : decode cX5_onPan 6 = .ok (.iload_n 1, 1) := by decide +kernel
theorem dX5_onPan_7 : decode cX5_onPan 7 = .ok (.invokevirtual 110, 3) := by decide +kernel
theorem dX5_onPan_10 : decode cX5_onPan 10 = .ok (.ifCond .ne 9, 3) := by decide +kernel
theorem dX5_onPan_13 : decode cX5_onPan 13 = .ok (.aload_n 0, 1) := by decide +kernel
theorem dX5_onPan_14 : decode cX5_onPan 14 = .ok (.iconst 1, 1) := by decide +kernel
theorem dX5_onPan_15 : decode cX5_onPan 15 = .ok (.invokevirtual 61, 3) := by decide +kernel
theorem dX5_onPan_18 : decode cX5_onPan 18 = .ok (.ireturn, 1) := by decide +kernel
theorem dX5_onPan_19 : decode cX5_onPan 19 = .ok (.aload_n 0, 1) := by decide +kernel
theorem dX5_onPan_20 : decode cX5_onPan 20 = .ok (.aload_n 0, 1) := by decide +kernel
theorem dX5_onPan_21 : decode cX5_onPan 21 = .ok (.iload_n 1, 1) := by decide +kernel
theorem dX5_onPan_22 : decode cX5_onPan 22 = .ok (.invokevirtual 89, 3) := by decide +kernel
theorem dX5_onPan_25 : decode cX5_onPan 25 = .ok (.invokevirtual 92, 3) := by decide +kernel
theorem dX5_onPan_28 : decode cX5_onPan 28 = .ok (.istore_n 2, 1) := by decide +kernel
theorem dX5_onPan_29 : decode cX5_onPan 29 = .ok (.aload_n 0, 1) := by decide +kernel
theorem dX5_onPan_30 : decode cX5_onPan 30 = .ok (.getfield 80, 3) := by decide +kernel
theorem dX5_onPan_33 : decode cX5_onPan 33 = .ok (.ireturn, 1) := by decide +kernel
theorem dX5_rest_0 : decode cX5_rest 0 = .ok (.aload_n 0, 1) := by decide +kernel
theorem dX5_rest_1 : decode cX5_rest 1 = .ok (.iconst 0, 1) := by decide +kernel
theorem dX5_rest_2 : decode cX5_rest 2 = .ok (.putfield 36, 3) := by decide +kernel
theorem dX5_rest_5 : decode cX5_rest 5 = .ok (.aload_n 0, 1) := by decide +kernel
theorem dX5_rest_6 : decode cX5_rest 6 = .ok (.iload_n 1, 1) := by decide +kernel
theorem dX5_rest_7 : decode cX5_rest 7 = .ok (.invokevirtual 110, 3) := by decide +kernel
theorem dX5_rest_10 : decode cX5_rest 10 = .ok (.ifCond .ne 9, 3) := by decide +kernel
theorem dX5_rest_13 : decode cX5_rest 13 = .ok (.aload_n 0, 1) := by decide +kernel
theorem dX5_rest_14 : decode cX5_rest 14 = .ok (.iconst 1, 1) := by decide +kernel
theorem dX5_rest_15 : decode cX5_rest 15 = .ok (.invokevirtual 61, 3) := by decide +kernel
theorem dX5_rest_18 : decode cX5_rest 18 = .ok (.ireturn, 1) := by decide +kernel
theorem dX5_rest_19 : decode cX5_rest 19 = .ok (.aload_n 0, 1) := by decide +kernel
theorem dX5_rest_20 : decode cX5_rest 20 = .ok (.aload_n 0, 1) := by decide +kernel
theorem dX5_rest_21 : decode cX5_rest 21 = .ok (.iload_n 1, 1) := by decide +kernel
theorem dX5_rest_22 : decode cX5_rest 22 = .ok (.invokevirtual 89, 3) := by decide +kernel
theorem dX5_rest_25 : decode cX5_rest 25 = .ok (.invokevirtual 92, 3) := by decide +kernel
theorem dX5_rest_28 : decode cX5_rest 28 = .ok (.istore_n 2, 1) := by decide +kernel
theorem dX5_rest_29 : decode cX5_rest 29 = .ok (.aload_n 0, 1) := by decide +kernel
theorem dX5_rest_30 : decode cX5_rest 30 = .ok (.iload_n 1, 1) := by decide +kernel
theorem dX5_rest_31 : decode cX5_rest 31 = .ok (.invokevirtual 89, 3) := by decide +kernel
theorem dX5_rest_34 : decode cX5_rest 34 = .ok (.aload_n 0, 1) := by decide +kernel
theorem dX5_rest_35 : decode cX5_rest 35 = .ok (.getfield 83, 3) := by decide +kernel
theorem dX5_rest_38 : decode cX5_rest 38 = .ok (.isub, 1) := by decide +kernel
theorem dX5_rest_39 : decode cX5_rest 39 = .ok (.ireturn, 1) := by decide +kernel
theorem dX5_honest_0 : decode cX5_honest 0 = .ok (.aload_n 0, 1) := by decide +kernel
theorem dX5_honest_1 : decode cX5_honest 1 = .ok (.iconst 0, 1) := by decide +kernel
theorem dX5_honest_2 : decode cX5_honest 2 = .ok (.putfield 36, 3) := by decide +kernel
theorem dX5_honest_5 : decode cX5_honest 5 = .ok (.aload_n 0, 1) := by decide +kernel
theorem dX5_honest_6 : decode cX5_honest 6 = .ok (.iload_n 1, 1) := by decide +kernel
theorem dX5_honest_7 : decode cX5_honest 7 = .ok (.invokevirtual 110, 3) := by decide +kernel
theorem dX5_honest_10 : decode cX5_honest 10 = .ok (.ifCond .eq 23, 3) := by decide +kernel
theorem dX5_honest_13 : decode cX5_honest 13 = .ok (.aload_n 0, 1) := by decide +kernel
theorem dX5_honest_14 : decode cX5_honest 14 = .ok (.aload_n 0, 1) := by decide +kernel
theorem dX5_honest_15 : decode cX5_honest 15 = .ok (.iload_n 1, 1) := by decide +kernel
theorem dX5_honest_16 : decode cX5_honest 16 = .ok (.iconst 0, 1) := by decide +kernel
theorem dX5_honest_17 : decode cX5_honest 17 = .ok (.invokevirtual 77, 3) := by decide +kernel
theorem dX5_honest_20 : decode cX5_honest 20 = .ok (.aload_n 0, 1) := by decide +kernel
theorem dX5_honest_21 : decode cX5_honest 21 = .ok (.iload_n 1, 1) := by decide +kernel
theorem dX5_honest_22 : decode cX5_honest 22 = .ok (.iconst 3, 1) := by decide +kernel
theorem dX5_honest_23 : decode cX5_honest 23 = .ok (.invokevirtual 77, 3) := by decide +kernel
theorem dX5_honest_26 : decode cX5_honest 26 = .ok (.iadd, 1) := by decide +kernel
theorem dX5_honest_27 : decode cX5_honest 27 = .ok (.invokevirtual 92, 3) := by decide +kernel
theorem dX5_honest_30 : decode cX5_honest 30 = .ok (.goto 8, 3) := by decide +kernel
theorem dX5_honest_33 : decode cX5_honest 33 = .ok (.aload_n 0, 1) := by decide +kernel
theorem dX5_honest_34 : decode cX5_honest 34 = .ok (.iconst 1, 1) := by decide +kernel
theorem dX5_honest_35 : decode cX5_honest 35 = .ok (.invokevirtual 61, 3) := by decide +kernel
theorem dX5_honest_38 : decode cX5_honest 38 = .ok (.ireturn, 1) := by decide +kernel
theorem dX5_pays_0 : decode cX5_pays 0 = .ok (.aload_n 0, 1) := by decide +kernel
theorem dX5_pays_1 : decode cX5_pays 1 = .ok (.iconst 0, 1) := by decide +kernel
theorem dX5_pays_2 : decode cX5_pays 2 = .ok (.putfield 36, 3) := by decide +kernel
theorem dX5_pays_5 : decode cX5_pays 5 = .ok (.iload_n 1, 1) := by decide +kernel
theorem dX5_pays_6 : decode cX5_pays 6 = .ok (.invokestatic 164, 3) := by decide +kernel
theorem dX5_pays_9 : decode cX5_pays 9 = .ok (.ifCond .ne 9, 3) := by decide +kernel
theorem dX5_pays_12 : decode cX5_pays 12 = .ok (.aload_n 0, 1) := by decide +kernel
theorem dX5_pays_13 : decode cX5_pays 13 = .ok (.iconst 1, 1) := by decide +kernel
theorem dX5_pays_14 : decode cX5_pays 14 = .ok (.invokevirtual 61, 3) := by decide +kernel
theorem dX5_pays_17 : decode cX5_pays 17 = .ok (.ireturn, 1) := by decide +kernel
theorem dX5_pays_18 : decode cX5_pays 18 = .ok (.iload_n 2, 1) := by decide +kernel
theorem dX5_pays_19 : decode cX5_pays 19 = .ok (.iconst 0, 1) := by decide +kernel
theorem dX5_pays_20 : decode cX5_pays 20 = .ok (.iconst 4, 1) := by decide +kernel
theorem dX5_pays_21 : decode cX5_pays 21 = .ok (.invokestatic 73, 3) := by decide +kernel
theorem dX5_pays_24 : decode cX5_pays 24 = .ok (.ifCond .eq 11, 3) := by decide +kernel
theorem dX5_pays_27 : decode cX5_pays 27 = .ok (.iload_n 1, 1) := by decide +kernel
theorem dX5_pays_28 : decode cX5_pays 28 = .ok (.iload_n 2, 1) := by decide +kernel
theorem dX5_pays_29 : decode cX5_pays 29 = .ok (.invokestatic 148, 3) := by decide +kernel
theorem dX5_pays_32 : decode cX5_pays 32 = .ok (.goto 8, 3) := by decide +kernel
theorem dX5_pays_35 : decode cX5_pays 35 = .ok (.aload_n 0, 1) := by decide +kernel
theorem dX5_pays_36 : decode cX5_pays 36 = .ok (.iconst 2, 1) := by decide +kernel
theorem dX5_pays_37 : decode cX5_pays 37 = .ok (.invokevirtual 61, 3) := by decide +kernel
theorem dX5_pays_40 : decode cX5_pays 40 = .ok (.ireturn, 1) := by decide +kernel
theorem dX5_gets_0 : decode cX5_gets 0 = .ok (.aload_n 0, 1) := by decide +kernel
theorem dX5_gets_1 : decode cX5_gets 1 = .ok (.iload_n 2, 1) := by decide +kernel
theorem dX5_gets_2 : decode cX5_gets 2 = .ok (.aload_n 0, 1) := by decide +kernel
theorem dX5_gets_3 : decode cX5_gets 3 = .ok (.iload_n 1, 1) := by decide +kernel
theorem dX5_gets_4 : decode cX5_gets 4 = .ok (.iconst 2, 1) := by decide +kernel
theorem dX5_gets_5 : decode cX5_gets 5 = .ok (.invokevirtual 77, 3) := by decide +kernel
theorem dX5_gets_8 : decode cX5_gets 8 = .ok (.iconst 1, 1) := by decide +kernel
theorem dX5_gets_9 : decode cX5_gets 9 = .ok (.isub, 1) := by decide +kernel
theorem dX5_gets_10 : decode cX5_gets 10 = .ok (.aload_n 0, 1) := by decide +kernel
theorem dX5_gets_11 : decode cX5_gets 11 = .ok (.aload_n 0, 1) := by decide +kernel
theorem dX5_gets_12 : decode cX5_gets 12 = .ok (.iload_n 1, 1) := by decide +kernel
theorem dX5_gets_13 : decode cX5_gets 13 = .ok (.invokevirtual 89, 3) := by decide +kernel
theorem dX5_gets_16 : decode cX5_gets 16 = .ok (.invokevirtual 92, 3) := by decide +kernel
theorem dX5_gets_19 : decode cX5_gets 19 = .ok (.aload_n 0, 1) := by decide +kernel
theorem dX5_gets_20 : decode cX5_gets 20 = .ok (.iload_n 1, 1) := by decide +kernel
theorem dX5_gets_21 : decode cX5_gets 21 = .ok (.iconst 0, 1) := by decide +kernel
theorem dX5_gets_22 : decode cX5_gets 22 = .ok (.invokevirtual 77, 3) := by decide +kernel
theorem dX5_gets_25 : decode cX5_gets 25 = .ok (.isub, 1) := by decide +kernel
theorem dX5_gets_26 : decode cX5_gets 26 = .ok (.invokevirtual 154, 3) := by decide +kernel
theorem dX5_gets_29 : decode cX5_gets 29 = .ok (.ireturn, 1) := by decide +kernel
theorem dX5_wouldGet_0 : decode cX5_wouldGet 0 = .ok (.aload_n 0, 1) := by decide +kernel
theorem dX5_wouldGet_1 : decode cX5_wouldGet 1 = .ok (.iconst 0, 1) := by decide +kernel
theorem dX5_wouldGet_2 : decode cX5_wouldGet 2 = .ok (.putfield 36, 3) := by decide +kernel
theorem dX5_wouldGet_5 : decode cX5_wouldGet 5 = .ok (.aload_n 0, 1) := by decide +kernel
theorem dX5_wouldGet_6 : decode cX5_wouldGet 6 = .ok (.iload_n 1, 1) := by decide +kernel
theorem dX5_wouldGet_7 : decode cX5_wouldGet 7 = .ok (.invokevirtual 110, 3) := by decide +kernel
theorem dX5_wouldGet_10 : decode cX5_wouldGet 10 = .ok (.ifCond .eq 10, 3) := by decide +kernel
theorem dX5_wouldGet_13 : decode cX5_wouldGet 13 = .ok (.iload_n 2, 1) := by decide +kernel
theorem dX5_wouldGet_14 : decode cX5_wouldGet 14 = .ok (.invokestatic 164, 3) := by decide +kernel
theorem dX5_wouldGet_17 : decode cX5_wouldGet 17 = .ok (.ifCond .ne 9, 3) := by decide +kernel
theorem dX5_wouldGet_20 : decode cX5_wouldGet 20 = .ok (.aload_n 0, 1) := by decide +kernel
theorem dX5_wouldGet_21 : decode cX5_wouldGet 21 = .ok (.iconst 1, 1) := by decide +kernel
theorem dX5_wouldGet_22 : decode cX5_wouldGet 22 = .ok (.invokevirtual 61, 3) := by decide +kernel
theorem dX5_wouldGet_25 : decode cX5_wouldGet 25 = .ok (.ireturn, 1) := by decide +kernel
theorem dX5_wouldGet_26 : decode cX5_wouldGet 26 = .ok (.aload_n 0, 1) := by decide +kernel
theorem dX5_wouldGet_27 : decode cX5_wouldGet 27 = .ok (.iload_n 1, 1) := by decide +kernel
theorem dX5_wouldGet_28 : decode cX5_wouldGet 28 = .ok (.iconst 3, 1) := by decide +kernel
theorem dX5_wouldGet_29 : decode cX5_wouldGet 29 = .ok (.invokevirtual 77, 3) := by decide +kernel
theorem dX5_wouldGet_32 : decode cX5_wouldGet 32 = .ok (.ifCond .ne 11, 3) := by decide +kernel
theorem dX5_wouldGet_35 : decode cX5_wouldGet 35 = .ok (.aload_n 0, 1) := by decide +kernel
theorem dX5_wouldGet_36 : decode cX5_wouldGet 36 = .ok (.iconst 2, 1) := by decide +kernel
theorem dX5_wouldGet_37 : decode cX5_wouldGet 37 = .ok (.invokevirtual 61, 3) := by decide +kernel
theorem dX5_wouldGet_40 : decode cX5_wouldGet 40 = .ok (.goto 9, 3) := by decide +kernel
theorem dX5_wouldGet_43 : decode cX5_wouldGet 43 = .ok (.aload_n 0, 1) := by decide +kernel
theorem dX5_wouldGet_44 : decode cX5_wouldGet 44 = .ok (.iload_n 1, 1) := by decide +kernel
theorem dX5_wouldGet_45 : decode cX5_wouldGet 45 = .ok (.iload_n 2, 1) := by decide +kernel
theorem dX5_wouldGet_46 : decode cX5_wouldGet 46 = .ok (.invokevirtual 195, 3) := by decide +kernel
theorem dX5_wouldGet_49 : decode cX5_wouldGet 49 = .ok (.ireturn, 1) := by decide +kernel
theorem dX5_bestMarket_0 : decode cX5_bestMarket 0 = .ok (.aload_n 0, 1) := by decide +kernel
theorem dX5_bestMarket_1 : decode cX5_bestMarket 1 = .ok (.iconst 0, 1) := by decide +kernel
theorem dX5_bestMarket_2 : decode cX5_bestMarket 2 = .ok (.putfield 36, 3) := by decide +kernel
theorem dX5_bestMarket_5 : decode cX5_bestMarket 5 = .ok (.aload_n 0, 1) := by decide +kernel
theorem dX5_bestMarket_6 : decode cX5_bestMarket 6 = .ok (.iload_n 1, 1) := by decide +kernel
theorem dX5_bestMarket_7 : decode cX5_bestMarket 7 = .ok (.invokevirtual 110, 3) := by decide +kernel
theorem dX5_bestMarket_10 : decode cX5_bestMarket 10 = .ok (.ifCond .ne 9, 3) := by decide +kernel
theorem dX5_bestMarket_13 : decode cX5_bestMarket 13 = .ok (.aload_n 0, 1) := by decide +kernel
theorem dX5_bestMarket_14 : decode cX5_bestMarket 14 = .ok (.iconst 1, 1) := by decide +kernel
theorem dX5_bestMarket_15 : decode cX5_bestMarket 15 = .ok (.invokevirtual 61, 3) := by decide +kernel
theorem dX5_bestMarket_18 : decode cX5_bestMarket 18 = .ok (.ireturn, 1) := by decide +kernel
theorem dX5_bestMarket_19 : decode cX5_bestMarket 19 = .ok (.aload_n 0, 1) := by decide +kernel
theorem dX5_bestMarket_20 : decode cX5_bestMarket 20 = .ok (.iload_n 1, 1) := by decide +kernel
theorem dX5_bestMarket_21 : decode cX5_bestMarket 21 = .ok (.iconst 3, 1) := by decide +kernel
theorem dX5_bestMarket_22 : decode cX5_bestMarket 22 = .ok (.invokevirtual 77, 3) := by decide +kernel
theorem dX5_bestMarket_25 : decode cX5_bestMarket 25 = .ok (.ifCond .ne 9, 3) := by decide +kernel
theorem dX5_bestMarket_28 : decode cX5_bestMarket 28 = .ok (.aload_n 0, 1) := by decide +kernel
theorem dX5_bestMarket_29 : decode cX5_bestMarket 29 = .ok (.iconst 2, 1) := by decide +kernel
theorem dX5_bestMarket_30 : decode cX5_bestMarket 30 = .ok (.invokevirtual 61, 3) := by decide +kernel
theorem dX5_bestMarket_33 : decode cX5_bestMarket 33 = .ok (.ireturn, 1) := by decide +kernel
theorem dX5_bestMarket_34 : decode cX5_bestMarket 34 = .ok (.iconst 0, 1) := by decide +kernel
theorem dX5_bestMarket_35 : decode cX5_bestMarket 35 = .ok (.istore_n 2, 1) := by decide +kernel
theorem dX5_bestMarket_36 : decode cX5_bestMarket 36 = .ok (.iconst 1, 1) := by decide +kernel
theorem dX5_bestMarket_37 : decode cX5_bestMarket 37 = .ok (.istore_n 3, 1) := by decide +kernel
theorem dX5_bestMarket_38 : decode cX5_bestMarket 38 = .ok (.iload_n 3, 1) := by decide +kernel
theorem dX5_bestMarket_39 : decode cX5_bestMarket 39 = .ok (.iconst 4, 1) := by decide +kernel
theorem dX5_bestMarket_40 : decode cX5_bestMarket 40 = .ok (.if_icmp .ge 78, 3) := by decide +kernel
theorem dX5_bestMarket_43 : decode cX5_bestMarket 43 = .ok (.aload_n 0, 1) := by decide +kernel
theorem dX5_bestMarket_44 : decode cX5_bestMarket 44 = .ok (.iload_n 1, 1) := by decide +kernel
theorem dX5_bestMarket_45 : decode cX5_bestMarket 45 = .ok (.iload_n 3, 1) := by decide +kernel
theorem dX5_bestMarket_46 : decode cX5_bestMarket 46 = .ok (.invokevirtual 195, 3) := by decide +kernel
theorem dX5_bestMarket_49 : decode cX5_bestMarket 49 = .ok (.aload_n 0, 1) := by decide +kernel
theorem dX5_bestMarket_50 : decode cX5_bestMarket 50 = .ok (.iload_n 1, 1) := by decide +kernel
theorem dX5_bestMarket_51 : decode cX5_bestMarket 51 = .ok (.iload_n 2, 1) := by decide +kernel
theorem dX5_bestMarket_52 : decode cX5_bestMarket 52 = .ok (.invokevirtual 195, 3) := by decide +kernel
theorem dX5_bestMarket_55 : decode cX5_bestMarket 55 = .ok (.isub, 1) := by decide +kernel
theorem dX5_bestMarket_56 : decode cX5_bestMarket 56 = .ok (.istore 4, 2) := by decide +kernel
theorem dX5_bestMarket_58 : decode cX5_bestMarket 58 = .ok (.iload_n 2, 1) := by decide +kernel
theorem dX5_bestMarket_59 : decode cX5_bestMarket 59 = .ok (.invokestatic 167, 3) := by decide +kernel
theorem dX5_bestMarket_62 : decode cX5_bestMarket 62 = .ok (.aload_n 0, 1) := by decide +kernel
theorem dX5_bestMarket_63 : decode cX5_bestMarket 63 = .ok (.getfield 9, 3) := by decide +kernel
theorem dX5_bestMarket_66 : decode cX5_bestMarket 66 = .ok (.iconst 1, 1) := by decide +kernel
theorem dX5_bestMarket_67 : decode cX5_bestMarket 67 = .ok (.iaload, 1) := by decide +kernel
theorem dX5_bestMarket_68 : decode cX5_bestMarket 68 = .ok (.invokestatic 167, 3) := by decide +kernel
theorem dX5_bestMarket_71 : decode cX5_bestMarket 71 = .ok (.isub, 1) := by decide +kernel
theorem dX5_bestMarket_72 : decode cX5_bestMarket 72 = .ok (.invokestatic 170, 3) := by decide +kernel
theorem dX5_bestMarket_75 : decode cX5_bestMarket 75 = .ok (.iload_n 3, 1) := by decide +kernel
theorem dX5_bestMarket_76 : decode cX5_bestMarket 76 = .ok (.invokestatic 167, 3) := by decide +kernel
theorem dX5_bestMarket_79 : decode cX5_bestMarket 79 = .ok (.aload_n 0, 1) := by decide +kernel
theorem dX5_bestMarket_80 : decode cX5_bestMarket 80 = .ok (.getfield 9, 3) := by decide +kernel
theorem dX5_bestMarket_83 : decode cX5_bestMarket 83 = .ok (.iconst 1, 1) := by decide +kernel
theorem dX5_bestMarket_84 : decode cX5_bestMarket 84 = .ok (.iaload, 1) := by decide +kernel
theorem dX5_bestMarket_85 : decode cX5_bestMarket 85 = .ok (.invokestatic 167, 3) := by decide +kernel
theorem dX5_bestMarket_88 : decode cX5_bestMarket 88 = .ok (.isub, 1) := by decide +kernel
theorem dX5_bestMarket_89 : decode cX5_bestMarket 89 = .ok (.invokestatic 170, 3) := by decide +kernel
theorem dX5_bestMarket_92 : decode cX5_bestMarket 92 = .ok (.isub, 1) := by decide +kernel
theorem dX5_bestMarket_93 : decode cX5_bestMarket 93 = .ok (.istore 5, 2) := by decide +kernel
theorem dX5_bestMarket_95 : decode cX5_bestMarket 95 = .ok (.iload 4, 2) := by decide +kernel
theorem dX5_bestMarket_97 : decode cX5_bestMarket 97 = .ok (.ifCond .gt 13, 3) := by decide +kernel
theorem dX5_bestMarket_100 : decode cX5_bestMarket 100 = .ok (.iload 4, 2) := by decide +kernel
theorem dX5_bestMarket_102 : decode cX5_bestMarket 102 = .ok (.ifCond .ne 10, 3) := by decide +kernel
theorem dX5_bestMarket_105 : decode cX5_bestMarket 105 = .ok (.iload 5, 2) := by decide +kernel
theorem dX5_bestMarket_107 : decode cX5_bestMarket 107 = .ok (.ifCond .le 5, 3) := by decide +kernel
theorem dX5_bestMarket_110 : decode cX5_bestMarket 110 = .ok (.iload_n 3, 1) := by decide +kernel
theorem dX5_bestMarket_111 : decode cX5_bestMarket 111 = .ok (.istore_n 2, 1) := by decide +kernel
theorem dX5_bestMarket_112 : decode cX5_bestMarket 112 = .ok (.iinc 3 1, 3) := by decide +kernel
theorem dX5_bestMarket_115 : decode cX5_bestMarket 115 = .ok (.goto (-77), 3) := by decide +kernel
theorem dX5_bestMarket_118 : decode cX5_bestMarket 118 = .ok (.iload_n 2, 1) := by decide +kernel
theorem dX5_bestMarket_119 : decode cX5_bestMarket 119 = .ok (.ireturn, 1) := by decide +kernel
theorem dX5_oathUntil_0 : decode cX5_oathUntil 0 = .ok (.aload_n 0, 1) := by decide +kernel
theorem dX5_oathUntil_1 : decode cX5_oathUntil 1 = .ok (.iconst 0, 1) := by decide +kernel
theorem dX5_oathUntil_2 : decode cX5_oathUntil 2 = .ok (.putfield 36, 3) := by decide +kernel
theorem dX5_oathUntil_5 : decode cX5_oathUntil 5 = .ok (.iload_n 1, 1) := by decide +kernel
theorem dX5_oathUntil_6 : decode cX5_oathUntil 6 = .ok (.invokestatic 164, 3) := by decide +kernel
theorem dX5_oathUntil_9 : decode cX5_oathUntil 9 = .ok (.ifCond .ne 9, 3) := by decide +kernel
theorem dX5_oathUntil_12 : decode cX5_oathUntil 12 = .ok (.aload_n 0, 1) := by decide +kernel
theorem dX5_oathUntil_13 : decode cX5_oathUntil 13 = .ok (.iconst 1, 1) := by decide +kernel
theorem dX5_oathUntil_14 : decode cX5_oathUntil 14 = .ok (.invokevirtual 61, 3) := by decide +kernel
theorem dX5_oathUntil_17 : decode cX5_oathUntil 17 = .ok (.ireturn, 1) := by decide +kernel
theorem dX5_oathUntil_18 : decode cX5_oathUntil 18 = .ok (.aload_n 0, 1) := by decide +kernel
theorem dX5_oathUntil_19 : decode cX5_oathUntil 19 = .ok (.iload_n 1, 1) := by decide +kernel
theorem dX5_oathUntil_20 : decode cX5_oathUntil 20 = .ok (.invokevirtual 133, 3) := by decide +kernel
theorem dX5_oathUntil_23 : decode cX5_oathUntil 23 = .ok (.ifCond .eq 17, 3) := by decide +kernel
theorem dX5_oathUntil_26 : decode cX5_oathUntil 26 = .ok (.aload_n 0, 1) := by decide +kernel
theorem dX5_oathUntil_27 : decode cX5_oathUntil 27 = .ok (.getfield 9, 3) := by decide +kernel
theorem dX5_oathUntil_30 : decode cX5_oathUntil 30 = .ok (.bipush 10, 2) := by decide +kernel
theorem dX5_oathUntil_32 : decode cX5_oathUntil 32 = .ok (.iload_n 1, 1) := by decide +kernel
theorem dX5_oathUntil_33 : decode cX5_oathUntil 33 = .ok (.iadd, 1) := by decide +kernel
theorem dX5_oathUntil_34 : decode cX5_oathUntil 34 = .ok (.iaload, 1) := by decide +kernel
theorem dX5_oathUntil_35 : decode cX5_oathUntil 35 = .ok (.iconst 1, 1) := by decide +kernel
theorem dX5_oathUntil_36 : decode cX5_oathUntil 36 = .ok (.isub, 1) := by decide +kernel
theorem dX5_oathUntil_37 : decode cX5_oathUntil 37 = .ok (.goto 8, 3) := by decide +kernel
theorem dX5_oathUntil_40 : decode cX5_oathUntil 40 = .ok (.aload_n 0, 1) := by decide +kernel
theorem dX5_oathUntil_41 : decode cX5_oathUntil 41 = .ok (.iconst 2, 1) := by decide +kernel
theorem dX5_oathUntil_42 : decode cX5_oathUntil 42 = .ok (.invokevirtual 61, 3) := by decide +kernel
theorem dX5_oathUntil_45 : decode cX5_oathUntil 45 = .ok (.ireturn, 1) := by decide +kernel
theorem dX5_isNoticed_0 : decode cX5_isNoticed 0 = .ok (.aload_n 0, 1) := by decide +kernel
theorem dX5_isNoticed_1 : decode cX5_isNoticed 1 = .ok (.iload_n 1, 1) := by decide +kernel
theorem dX5_isNoticed_2 : decode cX5_isNoticed 2 = .ok (.invokestatic 164, 3) := by decide +kernel
theorem dX5_isNoticed_5 : decode cX5_isNoticed 5 = .ok (.ifCond .eq 7, 3) := by decide +kernel
theorem dX5_isNoticed_8 : decode cX5_isNoticed 8 = .ok (.iconst 0, 1) := by decide +kernel
theorem dX5_isNoticed_9 : decode cX5_isNoticed 9 = .ok (.goto 4, 3) := by decide +kernel
theorem dX5_isNoticed_12 : decode cX5_isNoticed 12 = .ok (.iconst 1, 1) := by decide +kernel
theorem dX5_isNoticed_13 : decode cX5_isNoticed 13 = .ok (.putfield 36, 3) := by decide +kernel
theorem dX5_isNoticed_16 : decode cX5_isNoticed 16 = .ok (.aload_n 0, 1) := by decide +kernel
theorem dX5_isNoticed_17 : decode cX5_isNoticed 17 = .ok (.getfield 36, 3) := by decide +kernel
theorem dX5_isNoticed_20 : decode cX5_isNoticed 20 = .ok (.ifCond .ne 21, 3) := by decide +kernel
theorem dX5_isNoticed_23 : decode cX5_isNoticed 23 = .ok (.aload_n 0, 1) := by decide +kernel
theorem dX5_isNoticed_24 : decode cX5_isNoticed 24 = .ok (.getfield 9, 3) := by decide +kernel
theorem dX5_isNoticed_27 : decode cX5_isNoticed 27 = .ok (.iconst 3, 1) := by decide +kernel
theorem dX5_isNoticed_28 : decode cX5_isNoticed 28 = .ok (.iaload, 1) := by decide +kernel
theorem dX5_isNoticed_29 : decode cX5_isNoticed 29 = .ok (.aload_n 0, 1) := by decide +kernel
theorem dX5_isNoticed_30 : decode cX5_isNoticed 30 = .ok (.iload_n 1, 1) := by decide +kernel
theorem dX5_isNoticed_31 : decode cX5_isNoticed 31 = .ok (.invokevirtual 151, 3) := by decide +kernel
theorem dX5_isNoticed_34 : decode cX5_isNoticed 34 = .ok (.if_icmp .le 7, 3) := by decide +kernel
theorem dX5_isNoticed_37 : decode cX5_isNoticed 37 = .ok (.iconst 1, 1) := by decide +kernel
theorem dX5_isNoticed_38 : decode cX5_isNoticed 38 = .ok (.goto 4, 3) := by decide +kernel
theorem dX5_isNoticed_41 : decode cX5_isNoticed 41 = .ok (.iconst 0, 1) := by decide +kernel
theorem dX5_isNoticed_42 : decode cX5_isNoticed 42 = .ok (.ireturn, 1) := by decide +kernel
theorem dX5_ranked_0 : decode cX5_ranked 0 = .ok (.aload_n 0, 1) := by decide +kernel
theorem dX5_ranked_1 : decode cX5_ranked 1 = .ok (.iconst 0, 1) := by decide +kernel
theorem dX5_ranked_2 : decode cX5_ranked 2 = .ok (.putfield 36, 3) := by decide +kernel
theorem dX5_ranked_5 : decode cX5_ranked 5 = .ok (.iconst 0, 1) := by decide +kernel
theorem dX5_ranked_6 : decode cX5_ranked 6 = .ok (.istore_n 2, 1) := by decide +kernel
theorem dX5_ranked_7 : decode cX5_ranked 7 = .ok (.iload_n 2, 1) := by decide +kernel
theorem dX5_ranked_8 : decode cX5_ranked 8 = .ok (.aload_n 0, 1) := by decide +kernel
theorem dX5_ranked_9 : decode cX5_ranked 9 = .ok (.getfield 9, 3) := by decide +kernel
theorem dX5_ranked_12 : decode cX5_ranked 12 = .ok (.iconst 5, 1) := by decide +kernel
theorem dX5_ranked_13 : decode cX5_ranked 13 = .ok (.iaload, 1) := by decide +kernel
theorem dX5_ranked_14 : decode cX5_ranked 14 = .ok (.if_icmp .ge 99, 3) := by decide +kernel
theorem dX5_ranked_17 : decode cX5_ranked 17 = .ok (.iconst 0, 1) := by decide +kernel
theorem dX5_ranked_18 : decode cX5_ranked 18 = .ok (.istore_n 3, 1) := by decide +kernel
theorem dX5_ranked_19 : decode cX5_ranked 19 = .ok (.iconst 0, 1) := by decide +kernel
theorem dX5_ranked_20 : decode cX5_ranked 20 = .ok (.istore 4, 2) := by decide +kernel
theorem dX5_ranked_22 : decode cX5_ranked 22 = .ok (.iload 4, 2) := by decide +kernel
theorem dX5_ranked_24 : decode cX5_ranked 24 = .ok (.aload_n 0, 1) := by decide +kernel
theorem dX5_ranked_25 : decode cX5_ranked 25 = .ok (.getfield 9, 3) := by decide +kernel
theorem dX5_ranked_28 : decode cX5_ranked 28 = .ok (.iconst 5, 1) := by decide +kernel
theorem dX5_ranked_29 : decode cX5_ranked 29 = .ok (.iaload, 1) := by decide +kernel
theorem dX5_ranked_30 : decode cX5_ranked 30 = .ok (.if_icmp .ge 70, 3) := by decide +kernel
theorem dX5_ranked_33 : decode cX5_ranked 33 = .ok (.aload_n 0, 1) := by decide +kernel
theorem dX5_ranked_34 : decode cX5_ranked 34 = .ok (.iload 4, 2) := by decide +kernel
theorem dX5_ranked_36 : decode cX5_ranked 36 = .ok (.iconst 3, 1) := by decide +kernel
theorem dX5_ranked_37 : decode cX5_ranked 37 = .ok (.invokevirtual 77, 3) := by decide +kernel
theorem dX5_ranked_40 : decode cX5_ranked 40 = .ok (.aload_n 0, 1) := by decide +kernel
theorem dX5_ranked_41 : decode cX5_ranked 41 = .ok (.iload_n 2, 1) := by decide +kernel
theorem dX5_ranked_42 : decode cX5_ranked 42 = .ok (.iconst 3, 1) := by decide +kernel
theorem dX5_ranked_43 : decode cX5_ranked 43 = .ok (.invokevirtual 77, 3) := by decide +kernel
theorem dX5_ranked_46 : decode cX5_ranked 46 = .ok (.isub, 1) := by decide +kernel
theorem dX5_ranked_47 : decode cX5_ranked 47 = .ok (.istore 5, 2) := by decide +kernel
theorem dX5_ranked_49 : decode cX5_ranked 49 = .ok (.aload_n 0, 1) := by decide +kernel
theorem dX5_ranked_50 : decode cX5_ranked 50 = .ok (.iload_n 2, 1) := by decide +kernel
theorem dX5_ranked_51 : decode cX5_ranked 51 = .ok (.iconst 0, 1) := by decide +kernel
theorem dX5_ranked_52 : decode cX5_ranked 52 = .ok (.invokevirtual 77, 3) := by decide +kernel
theorem dX5_ranked_55 : decode cX5_ranked 55 = .ok (.aload_n 0, 1) := by decide +kernel
theorem dX5_ranked_56 : decode cX5_ranked 56 = .ok (.iload 4, 2) := by decide +kernel
theorem dX5_ranked_58 : decode cX5_ranked 58 = .ok (.iconst 0, 1) := by decide +kernel
theorem dX5_ranked_59 : decode cX5_ranked 59 = .ok (.invokevirtual 77, 3) := by decide +kernel
theorem dX5_ranked_62 : decode cX5_ranked 62 = .ok (.isub, 1) := by decide +kernel
theorem dX5_ranked_63 : decode cX5_ranked 63 = .ok (.istore 6, 2) := by decide +kernel
theorem dX5_ranked_65 : decode cX5_ranked 65 = .ok (.iload 5, 2) := by decide +kernel
theorem dX5_ranked_67 : decode cX5_ranked 67 = .ok (.ifCond .gt 24, 3) := by decide +kernel
theorem dX5_ranked_70 : decode cX5_ranked 70 = .ok (.iload 5, 2) := by decide +kernel
theorem dX5_ranked_72 : decode cX5_ranked 72 = .ok (.ifCond .ne 22, 3) := by decide +kernel
theorem dX5_ranked_75 : decode cX5_ranked 75 = .ok (.iload 6, 2) := by decide +kernel
theorem dX5_ranked_77 : decode cX5_ranked 77 = .ok (.ifCond .gt 14, 3) := by decide +kernel
theorem dX5_ranked_80 : decode cX5_ranked 80 = .ok (.iload 6, 2) := by decide +kernel
theorem dX5_ranked_82 : decode cX5_ranked 82 = .ok (.ifCond .ne 12, 3) := by decide +kernel
theorem dX5_ranked_85 : decode cX5_ranked 85 = .ok (.iload 4, 2) := by decide +kernel
theorem dX5_ranked_87 : decode cX5_ranked 87 = .ok (.iload_n 2, 1) := by decide +kernel
theorem dX5_ranked_88 : decode cX5_ranked 88 = .ok (.if_icmp .ge 6, 3) := by decide +kernel
theorem dX5_ranked_91 : decode cX5_ranked 91 = .ok (.iinc 3 1, 3) := by decide +kernel
theorem dX5_ranked_94 : decode cX5_ranked 94 = .ok (.iinc 4 1, 3) := by decide +kernel
theorem dX5_ranked_97 : decode cX5_ranked 97 = .ok (.goto (-75), 3) := by decide +kernel
theorem dX5_ranked_100 : decode cX5_ranked 100 = .ok (.iload_n 3, 1) := by decide +kernel
theorem dX5_ranked_101 : decode cX5_ranked 101 = .ok (.iload_n 1, 1) := by decide +kernel
theorem dX5_ranked_102 : decode cX5_ranked 102 = .ok (.if_icmp .ne 5, 3) := by decide +kernel
theorem dX5_ranked_105 : decode cX5_ranked 105 = .ok (.iload_n 2, 1) := by decide +kernel
theorem dX5_ranked_106 : decode cX5_ranked 106 = .ok (.ireturn, 1) := by decide +kernel
theorem dX5_ranked_107 : decode cX5_ranked 107 = .ok (.iinc 2 1, 3) := by decide +kernel
theorem dX5_ranked_110 : decode cX5_ranked 110 = .ok (.goto (-103), 3) := by decide +kernel
theorem dX5_ranked_113 : decode cX5_ranked 113 = .ok (.aload_n 0, 1) := by decide +kernel
theorem dX5_ranked_114 : decode cX5_ranked 114 = .ok (.iconst 1, 1) := by decide +kernel
theorem dX5_ranked_115 : decode cX5_ranked 115 = .ok (.invokevirtual 61, 3) := by decide +kernel
theorem dX5_ranked_118 : decode cX5_ranked 118 = .ok (.ireturn, 1) := by decide +kernel
theorem dX5_append_0 : decode cX5_append 0 = .ok (.aload_n 0, 1) := by decide +kernel
theorem dX5_append_1 : decode cX5_append 1 = .ok (.iconst 0, 1) := by decide +kernel
theorem dX5_append_2 : decode cX5_append 2 = .ok (.putfield 36, 3) := by decide +kernel
theorem dX5_append_5 : decode cX5_append 5 = .ok (.aload_n 0, 1) := by decide +kernel
theorem dX5_append_6 : decode cX5_append 6 = .ok (.getfield 198, 3) := by decide +kernel
theorem dX5_append_9 : decode cX5_append 9 = .ok (.bipush 60, 2) := by decide +kernel
theorem dX5_append_11 : decode cX5_append 11 = .ok (.if_icmp .ne 9, 3) := by decide +kernel
theorem dX5_append_14 : decode cX5_append 14 = .ok (.aload_n 0, 1) := by decide +kernel
theorem dX5_append_15 : decode cX5_append 15 = .ok (.iconst 1, 1) := by decide +kernel
theorem dX5_append_16 : decode cX5_append 16 = .ok (.invokevirtual 61, 3) := by decide +kernel
theorem dX5_append_19 : decode cX5_append 19 = .ok (.ireturn, 1) := by decide +kernel
theorem dX5_append_20 : decode cX5_append 20 = .ok (.aload_n 0, 1) := by decide +kernel
theorem dX5_append_21 : decode cX5_append 21 = .ok (.getfield 25, 3) := by decide +kernel
theorem dX5_append_24 : decode cX5_append 24 = .ok (.aload_n 0, 1) := by decide +kernel
theorem dX5_append_25 : decode cX5_append 25 = .ok (.dup, 1) := by decide +kernel
theorem dX5_append_26 : decode cX5_append 26 = .ok (.getfield 198, 3) := by decide +kernel
theorem dX5_append_29 : decode cX5_append 29 = .ok (.dup_x1, 1) := by decide +kernel
theorem dX5_append_30 : decode cX5_append 30 = .ok (.iconst 1, 1) := by decide +kernel
theorem dX5_append_31 : decode cX5_append 31 = .ok (.iadd, 1) := by decide +kernel
theorem dX5_append_32 : decode cX5_append 32 = .ok (.putfield 198, 3) := by decide +kernel
theorem dX5_append_35 : decode cX5_append 35 = .ok (.iload_n 1, 1) := by decide +kernel
theorem dX5_append_36 : decode cX5_append 36 = .ok (.castore, 1) := by decide +kernel
theorem dX5_append_37 : decode cX5_append 37 = .ok (.aload_n 0, 1) := by decide +kernel
theorem dX5_append_38 : decode cX5_append 38 = .ok (.getfield 198, 3) := by decide +kernel
theorem dX5_append_41 : decode cX5_append 41 = .ok (.ireturn, 1) := by decide +kernel
theorem dX5_isNext_0 : decode cX5_isNext 0 = .ok (.aload_n 0, 1) := by decide +kernel
theorem dX5_isNext_1 : decode cX5_isNext 1 = .ok (.getfield 201, 3) := by decide +kernel
theorem dX5_isNext_4 : decode cX5_isNext 4 = .ok (.aload_n 0, 1) := by decide +kernel
theorem dX5_isNext_5 : decode cX5_isNext 5 = .ok (.getfield 198, 3) := by decide +kernel
theorem dX5_isNext_8 : decode cX5_isNext 8 = .ok (.if_icmp .eq 16, 3) := by decide +kernel
theorem dX5_isNext_11 : decode cX5_isNext 11 = .ok (.aload_n 0, 1) := by decide +kernel
theorem dX5_isNext_12 : decode cX5_isNext 12 = .ok (.getfield 25, 3) := by decide +kernel
theorem dX5_isNext_15 : decode cX5_isNext 15 = .ok (.aload_n 0, 1) := by decide +kernel
theorem dX5_isNext_16 : decode cX5_isNext 16 = .ok (.getfield 201, 3) := by decide +kernel
theorem dX5_isNext_19 : decode cX5_isNext 19 = .ok (.caload, 1) := by decide +kernel
theorem dX5_isNext_20 : decode cX5_isNext 20 = .ok (.iload_n 1, 1) := by decide +kernel
theorem dX5_isNext_21 : decode cX5_isNext 21 = .ok (.if_icmp .eq 5, 3) := by decide +kernel
theorem dX5_isNext_24 : decode cX5_isNext 24 = .ok (.iconst 0, 1) := by decide +kernel
theorem dX5_isNext_25 : decode cX5_isNext 25 = .ok (.ireturn, 1) := by decide +kernel
theorem dX5_isNext_26 : decode cX5_isNext 26 = .ok (.aload_n 0, 1) := by decide +kernel
theorem dX5_isNext_27 : decode cX5_isNext 27 = .ok (.dup, 1) := by decide +kernel
theorem dX5_isNext_28 : decode cX5_isNext 28 = .ok (.getfield 201, 3) := by decide +kernel
theorem dX5_isNext_31 : decode cX5_isNext 31 = .ok (.iconst 1, 1) := by decide +kernel
theorem dX5_isNext_32 : decode cX5_isNext 32 = .ok (.iadd, 1) := by decide +kernel
theorem dX5_isNext_33 : decode cX5_isNext 33 = .ok (.putfield 201, 3) := by decide +kernel
theorem dX5_isNext_36 : decode cX5_isNext 36 = .ok (.iconst 1, 1) := by decide +kernel
theorem dX5_isNext_37 : decode cX5_isNext 37 = .ok (.ireturn, 1) := by decide +kernel
theorem dX5_digits_0 : decode cX5_digits 0 = .ok (.iconst 0, 1) := by decide +kernel
theorem dX5_digits_1 : decode cX5_digits 1 = .ok (.istore_n 3, 1) := by decide +kernel
theorem dX5_digits_2 : decode cX5_digits 2 = .ok (.aload_n 0, 1) := by decide +kernel
theorem dX5_digits_3 : decode cX5_digits 3 = .ok (.getfield 29, 3) := by decide +kernel
theorem dX5_digits_6 : decode cX5_digits 6 = .ok (.iload_n 1, 1) := by decide +kernel
theorem dX5_digits_7 : decode cX5_digits 7 = .ok (.iconst 0, 1) := by decide +kernel
theorem dX5_digits_8 : decode cX5_digits 8 = .ok (.iastore, 1) := by decide +kernel
theorem dX5_digits_9 : decode cX5_digits 9 = .ok (.iload_n 3, 1) := by decide +kernel
theorem dX5_digits_10 : decode cX5_digits 10 = .ok (.iload_n 2, 1) := by decide +kernel
theorem dX5_digits_11 : decode cX5_digits 11 = .ok (.if_icmp .ge 74, 3) := by decide +kernel
theorem dX5_digits_14 : decode cX5_digits 14 = .ok (.aload_n 0, 1) := by decide +kernel
theorem dX5_digits_15 : decode cX5_digits 15 = .ok (.getfield 201, 3) := by decide +kernel
theorem dX5_digits_18 : decode cX5_digits 18 = .ok (.aload_n 0, 1) := by decide +kernel
theorem dX5_digits_19 : decode cX5_digits 19 = .ok (.getfield 198, 3) := by decide +kernel
theorem dX5_digits_22 : decode cX5_digits 22 = .ok (.if_icmp .ge 63, 3) := by decide +kernel
theorem dX5_digits_25 : decode cX5_digits 25 = .ok (.aload_n 0, 1) := by decide +kernel
theorem dX5_digits_26 : decode cX5_digits 26 = .ok (.getfield 25, 3) := by decide +kernel
theorem dX5_digits_29 : decode cX5_digits 29 = .ok (.aload_n 0, 1) := by decide +kernel
theorem dX5_digits_30 : decode cX5_digits 30 = .ok (.getfield 201, 3) := by decide +kernel
theorem dX5_digits_33 : decode cX5_digits 33 = .ok (.caload, 1) := by decide +kernel
theorem dX5_digits_34 : decode cX5_digits 34 = .ok (.bipush 48, 2) := by decide +kernel
theorem dX5_digits_36 : decode cX5_digits 36 = .ok (.bipush 57, 2) := by decide +kernel
theorem dX5_digits_38 : decode cX5_digits 38 = .ok (.invokestatic 73, 3) := by decide +kernel
theorem dX5_digits_41 : decode cX5_digits 41 = .ok (.ifCond .eq 44, 3) := by decide +kernel
theorem dX5_digits_44 : decode cX5_digits 44 = .ok (.aload_n 0, 1) := by decide +kernel
theorem dX5_digits_45 : decode cX5_digits 45 = .ok (.getfield 29, 3) := by decide +kernel
theorem dX5_digits_48 : decode cX5_digits 48 = .ok (.iload_n 1, 1) := by decide +kernel
theorem dX5_digits_49 : decode cX5_digits 49 = .ok (.bipush 10, 2) := by decide +kernel
theorem dX5_digits_51 : decode cX5_digits 51 = .ok (.aload_n 0, 1) := by decide +kernel
theorem dX5_digits_52 : decode cX5_digits 52 = .ok (.getfield 29, 3) := by decide +kernel
theorem dX5_digits_55 : decode cX5_digits 55 = .ok (.iload_n 1, 1) := by decide +kernel
theorem dX5_digits_56 : decode cX5_digits 56 = .ok (.iaload, 1) := by decide +kernel
theorem dX5_digits_57 : decode cX5_digits 57 = .ok (.imul, 1) := by decide +kernel
theorem dX5_digits_58 : decode cX5_digits 58 = .ok (.aload_n 0, 1) := by decide +kernel
theorem dX5_digits_59 : decode cX5_digits 59 = .ok (.getfield 25, 3) := by decide +kernel
theorem dX5_digits_62 : decode cX5_digits 62 = .ok (.aload_n 0, 1) := by decide +kernel
theorem dX5_digits_63 : decode cX5_digits 63 = .ok (.dup, 1) := by decide +kernel
theorem dX5_digits_64 : decode cX5_digits 64 = .ok (.getfield 201, 3) := by decide +kernel
theorem dX5_digits_67 : decode cX5_digits 67 = .ok (.dup_x1, 1) := by decide +kernel
theorem dX5_digits_68 : decode cX5_digits 68 = .ok (.iconst 1, 1) := by decide +kernel
theorem dX5_digits_69 : decode cX5_digits 69 = .ok (.iadd, 1) := by decide +kernel
theorem dX5_digits_70 : decode cX5_digits 70 = .ok (.putfield 201, 3) := by decide +kernel
theorem dX5_digits_73 : decode cX5_digits 73 = .ok (.caload, 1) := by decide +kernel
theorem dX5_digits_74 : decode cX5_digits 74 = .ok (.iadd, 1) := by decide +kernel
theorem dX5_digits_75 : decode cX5_digits 75 = .ok (.bipush 48, 2) := by decide +kernel
theorem dX5_digits_77 : decode cX5_digits 77 = .ok (.isub, 1) := by decide +kernel
theorem dX5_digits_78 : decode cX5_digits 78 = .ok (.iastore, 1) := by decide +kernel
theorem dX5_digits_79 : decode cX5_digits 79 = .ok (.iinc 3 1, 3) := by decide +kernel
theorem dX5_digits_82 : decode cX5_digits 82 = .ok (.goto (-73), 3) := by decide +kernel
theorem dX5_digits_85 : decode cX5_digits 85 = .ok (.iload_n 3, 1) := by decide +kernel
theorem dX5_digits_86 : decode cX5_digits 86 = .ok (.ifCond .le 7, 3) := by decide +kernel
theorem dX5_digits_89 : decode cX5_digits 89 = .ok (.iconst 1, 1) := by decide +kernel
theorem dX5_digits_90 : decode cX5_digits 90 = .ok (.goto 4, 3) := by decide +kernel
theorem dX5_digits_93 : decode cX5_digits 93 = .ok (.iconst 0, 1) := by decide +kernel
theorem dX5_digits_94 : decode cX5_digits 94 = .ok (.ireturn, 1) := by decide +kernel
theorem dX5_isCommand_0 : decode cX5_isCommand 0 = .ok (.aload_n 0, 1) := by decide +kernel
theorem dX5_isCommand_1 : decode cX5_isCommand 1 = .ok (.getfield 201, 3) := by decide +kernel
theorem dX5_isCommand_4 : decode cX5_isCommand 4 = .ok (.aload_n 0, 1) := by decide +kernel
theorem dX5_isCommand_5 : decode cX5_isCommand 5 = .ok (.getfield 198, 3) := by decide +kernel
theorem dX5_isCommand_8 : decode cX5_isCommand 8 = .ok (.if_icmp .ne 5, 3) := by decide +kernel
theorem dX5_isCommand_11 : decode cX5_isCommand 11 = .ok (.iconst 0, 1) := by decide +kernel
theorem dX5_isCommand_12 : decode cX5_isCommand 12 = .ok (.ireturn, 1) := by decide +kernel
theorem dX5_isCommand_13 : decode cX5_isCommand 13 = .ok (.aload_n 0, 1) := by decide +kernel
theorem dX5_isCommand_14 : decode cX5_isCommand 14 = .ok (.aload_n 0, 1) := by decide +kernel
theorem dX5_isCommand_15 : decode cX5_isCommand 15 = .ok (.getfield 25, 3) := by decide +kernel
theorem dX5_isCommand_18 : decode cX5_isCommand 18 = .ok (.aload_n 0, 1) := by decide +kernel
theorem dX5_isCommand_19 : decode cX5_isCommand 19 = .ok (.getfield 201, 3) := by decide +kernel
theorem dX5_isCommand_22 : decode cX5_isCommand 22 = .ok (.caload, 1) := by decide +kernel
theorem dX5_isCommand_23 : decode cX5_isCommand 23 = .ok (.putfield 204, 3) := by decide +kernel
theorem dX5_isCommand_26 : decode cX5_isCommand 26 = .ok (.aload_n 0, 1) := by decide +kernel
theorem dX5_isCommand_27 : decode cX5_isCommand 27 = .ok (.getfield 204, 3) := by decide +kernel
theorem dX5_isCommand_30 : decode cX5_isCommand 30 = .ok (.tableswitch 256 98 120 #[210, 256, 256, 167, 106, 210, 256, 256, 256, 256, 256, 256, 227, 244, 256, 256, 256, 210, 227, 256, 256, 210, 210], 106) := by decide +kernel
theorem dX5_isCommand_136 : decode cX5_isCommand 136 = .ok (.aload_n 0, 1) := by decide +kernel
theorem dX5_isCommand_137 : decode cX5_isCommand 137 = .ok (.dup, 1) := by decide +kernel
theorem dX5_isCommand_138 : decode cX5_isCommand 138 = .ok (.getfield 201, 3) := by decide +kernel
theorem dX5_isCommand_141 : decode cX5_isCommand 141 = .ok (.iconst 1, 1) := by decide +kernel
theorem dX5_isCommand_142 : decode cX5_isCommand 142 = .ok (.iadd, 1) := by decide +kernel
theorem dX5_isCommand_143 : decode cX5_isCommand 143 = .ok (.putfield 201, 3) := by decide +kernel
theorem dX5_isCommand_146 : decode cX5_isCommand 146 = .ok (.aload_n 0, 1) := by decide +kernel
theorem dX5_isCommand_147 : decode cX5_isCommand 147 = .ok (.iconst 0, 1) := by decide +kernel
theorem dX5_isCommand_148 : decode cX5_isCommand 148 = .ok (.iconst 1, 1) := by decide +kernel
theorem dX5_isCommand_149 : decode cX5_isCommand 149 = .ok (.invokevirtual 208, 3) := by decide +kernel
theorem dX5_isCommand_152 : decode cX5_isCommand 152 = .ok (.ifCond .eq 43, 3) := by decide +kernel
theorem dX5_isCommand_155 : decode cX5_isCommand 155 = .ok (.aload_n 0, 1) := by decide +kernel
theorem dX5_isCommand_156 : decode cX5_isCommand 156 = .ok (.bipush 60, 2) := by decide +kernel
theorem dX5_isCommand_158 : decode cX5_isCommand 158 = .ok (.invokevirtual 211, 3) := by decide +kernel
theorem dX5_isCommand_161 : decode cX5_isCommand 161 = .ok (.ifCond .eq 34, 3) := by decide +kernel
theorem dX5_isCommand_164 : decode cX5_isCommand 164 = .ok (.aload_n 0, 1) := by decide +kernel
theorem dX5_isCommand_165 : decode cX5_isCommand 165 = .ok (.iconst 1, 1) := by decide +kernel
theorem dX5_isCommand_166 : decode cX5_isCommand 166 = .ok (.iconst 1, 1) := by decide +kernel
theorem dX5_isCommand_167 : decode cX5_isCommand 167 = .ok (.invokevirtual 208, 3) := by decide +kernel
theorem dX5_isCommand_170 : decode cX5_isCommand 170 = .ok (.ifCond .eq 25, 3) := by decide +kernel
theorem dX5_isCommand_173 : decode cX5_isCommand 173 = .ok (.aload_n 0, 1) := by decide +kernel
theorem dX5_isCommand_174 : decode cX5_isCommand 174 = .ok (.bipush 43, 2) := by decide +kernel
theorem dX5_isCommand_176 : decode cX5_isCommand 176 = .ok (.invokevirtual 211, 3) := by decide +kernel
theorem dX5_isCommand_179 : decode cX5_isCommand 179 = .ok (.ifCond .eq 16, 3) := by decide +kernel
theorem dX5_isCommand_182 : decode cX5_isCommand 182 = .ok (.aload_n 0, 1) := by decide +kernel
theorem dX5_isCommand_183 : decode cX5_isCommand 183 = .ok (.iconst 2, 1) := by decide +kernel
theorem dX5_isCommand_184 : decode cX5_isCommand 184 = .ok (.iconst 3, 1) := by decide +kernel
theorem dX5_isCommand_185 : decode cX5_isCommand 185 = .ok (.invokevirtual 208, 3) := by decide +kernel
theorem dX5_isCommand_188 : decode cX5_isCommand 188 = .ok (.ifCond .eq 7, 3) := by decide +kernel
theorem dX5_isCommand_191 : decode cX5_isCommand 191 = .ok (.iconst 1, 1) := by decide +kernel
theorem dX5_isCommand_192 : decode cX5_isCommand 192 = .ok (.goto 4, 3) := by decide +kernel
theorem dX5_isCommand_195 : decode cX5_isCommand 195 = .ok (.iconst 0, 1) := by decide +kernel
theorem dX5_isCommand_196 : decode cX5_isCommand 196 = .ok (.ireturn, 1) := by decide +kernel
theorem dX5_isCommand_197 : decode cX5_isCommand 197 = .ok (.aload_n 0, 1) := by decide +kernel
theorem dX5_isCommand_198 : decode cX5_isCommand 198 = .ok (.dup, 1) := by decide +kernel
theorem dX5_isCommand_199 : decode cX5_isCommand 199 = .ok (.getfield 201, 3) := by decide +kernel
theorem dX5_isCommand_202 : decode cX5_isCommand 202 = .ok (.iconst 1, 1) := by decide +kernel
theorem dX5_isCommand_203 : decode cX5_isCommand 203 = .ok (.iadd, 1) := by decide +kernel
theorem dX5_isCommand_204 : decode cX5_isCommand 204 = .ok (.putfield 201, 3) := by decide +kernel
theorem dX5_isCommand_207 : decode cX5_isCommand 207 = .ok (.aload_n 0, 1) := by decide +kernel
theorem dX5_isCommand_208 : decode cX5_isCommand 208 = .ok (.iconst 0, 1) := by decide +kernel
theorem dX5_isCommand_209 : decode cX5_isCommand 209 = .ok (.iconst 1, 1) := by decide +kernel
theorem dX5_isCommand_210 : decode cX5_isCommand 210 = .ok (.invokevirtual 208, 3) := by decide +kernel
theorem dX5_isCommand_213 : decode cX5_isCommand 213 = .ok (.ifCond .eq 25, 3) := by decide +kernel
theorem dX5_isCommand_216 : decode cX5_isCommand 216 = .ok (.aload_n 0, 1) := by decide +kernel
theorem dX5_isCommand_217 : decode cX5_isCommand 217 = .ok (.bipush 62, 2) := by decide +kernel
theorem dX5_isCommand_219 : decode cX5_isCommand 219 = .ok (.invokevirtual 211, 3) := by decide +kernel
theorem dX5_isCommand_222 : decode cX5_isCommand 222 = .ok (.ifCond .eq 16, 3) := by decide +kernel
theorem dX5_isCommand_225 : decode cX5_isCommand 225 = .ok (.aload_n 0, 1) := by decide +kernel
theorem dX5_isCommand_226 : decode cX5_isCommand 226 = .ok (.iconst 1, 1) := by decide +kernel
theorem dX5_isCommand_227 : decode cX5_isCommand 227 = .ok (.iconst 1, 1) := by decide +kernel
theorem dX5_isCommand_228 : decode cX5_isCommand 228 = .ok (.invokevirtual 208, 3) := by decide +kernel
theorem dX5_isCommand_231 : decode cX5_isCommand 231 = .ok (.ifCond .eq 7, 3) := by decide +kernel
theorem dX5_isCommand_234 : decode cX5_isCommand 234 = .ok (.iconst 1, 1) := by decide +kernel
theorem dX5_isCommand_235 : decode cX5_isCommand 235 = .ok (.goto 4, 3) := by decide +kernel
theorem dX5_isCommand_238 : decode cX5_isCommand 238 = .ok (.iconst 0, 1) := by decide +kernel
theorem dX5_isCommand_239 : decode cX5_isCommand 239 = .ok (.ireturn, 1) := by decide +kernel
theorem dX5_isCommand_240 : decode cX5_isCommand 240 = .ok (.aload_n 0, 1) := by decide +kernel
theorem dX5_isCommand_241 : decode cX5_isCommand 241 = .ok (.dup, 1) := by decide +kernel
theorem dX5_isCommand_242 : decode cX5_isCommand 242 = .ok (.getfield 201, 3) := by decide +kernel
theorem dX5_isCommand_245 : decode cX5_isCommand 245 = .ok (.iconst 1, 1) := by decide +kernel
theorem dX5_isCommand_246 : decode cX5_isCommand 246 = .ok (.iadd, 1) := by decide +kernel
theorem dX5_isCommand_247 : decode cX5_isCommand 247 = .ok (.putfield 201, 3) := by decide +kernel
theorem dX5_isCommand_250 : decode cX5_isCommand 250 = .ok (.aload_n 0, 1) := by decide +kernel
theorem dX5_isCommand_251 : decode cX5_isCommand 251 = .ok (.iconst 0, 1) := by decide +kernel
theorem dX5_isCommand_252 : decode cX5_isCommand 252 = .ok (.iconst 1, 1) := by decide +kernel
theorem dX5_isCommand_253 : decode cX5_isCommand 253 = .ok (.invokevirtual 208, 3) := by decide +kernel
theorem dX5_isCommand_256 : decode cX5_isCommand 256 = .ok (.ireturn, 1) := by decide +kernel
theorem dX5_isCommand_257 : decode cX5_isCommand 257 = .ok (.aload_n 0, 1) := by decide +kernel
theorem dX5_isCommand_258 : decode cX5_isCommand 258 = .ok (.dup, 1) := by decide +kernel
theorem dX5_isCommand_259 : decode cX5_isCommand 259 = .ok (.getfield 201, 3) := by decide +kernel
theorem dX5_isCommand_262 : decode cX5_isCommand 262 = .ok (.iconst 1, 1) := by decide +kernel
theorem dX5_isCommand_263 : decode cX5_isCommand 263 = .ok (.iadd, 1) := by decide +kernel
theorem dX5_isCommand_264 : decode cX5_isCommand 264 = .ok (.putfield 201, 3) := by decide +kernel
theorem dX5_isCommand_267 : decode cX5_isCommand 267 = .ok (.aload_n 0, 1) := by decide +kernel
theorem dX5_isCommand_268 : decode cX5_isCommand 268 = .ok (.iconst 0, 1) := by decide +kernel
theorem dX5_isCommand_269 : decode cX5_isCommand 269 = .ok (.iconst 2, 1) := by decide +kernel
theorem dX5_isCommand_270 : decode cX5_isCommand 270 = .ok (.invokevirtual 208, 3) := by decide +kernel
theorem dX5_isCommand_273 : decode cX5_isCommand 273 = .ok (.ireturn, 1) := by decide +kernel
theorem dX5_isCommand_274 : decode cX5_isCommand 274 = .ok (.aload_n 0, 1) := by decide +kernel
theorem dX5_isCommand_275 : decode cX5_isCommand 275 = .ok (.dup, 1) := by decide +kernel
theorem dX5_isCommand_276 : decode cX5_isCommand 276 = .ok (.getfield 201, 3) := by decide +kernel
theorem dX5_isCommand_279 : decode cX5_isCommand 279 = .ok (.iconst 1, 1) := by decide +kernel
theorem dX5_isCommand_280 : decode cX5_isCommand 280 = .ok (.iadd, 1) := by decide +kernel
theorem dX5_isCommand_281 : decode cX5_isCommand 281 = .ok (.putfield 201, 3) := by decide +kernel
theorem dX5_isCommand_284 : decode cX5_isCommand 284 = .ok (.iconst 1, 1) := by decide +kernel
theorem dX5_isCommand_285 : decode cX5_isCommand 285 = .ok (.ireturn, 1) := by decide +kernel
theorem dX5_isCommand_286 : decode cX5_isCommand 286 = .ok (.iconst 0, 1) := by decide +kernel
theorem dX5_isCommand_287 : decode cX5_isCommand 287 = .ok (.ireturn, 1) := by decide +kernel
theorem dX5_carries_0 : decode cX5_carries 0 = .ok (.aload_n 0, 1) := by decide +kernel
theorem dX5_carries_1 : decode cX5_carries 1 = .ok (.getfield 204, 3) := by decide +kernel
theorem dX5_carries_4 : decode cX5_carries 4 = .ok (.tableswitch 225 98 120 #[148, 225, 225, 131, 108, 181, 225, 225, 225, 225, 225, 225, 214, 225, 225, 225, 225, 170, 203, 225, 225, 159, 192], 108) := by decide +kernel
theorem dX5_carries_112 : decode cX5_carries 112 = .ok (.aload_n 0, 1) := by decide +kernel
theorem dX5_carries_113 : decode cX5_carries 113 = .ok (.aload_n 0, 1) := by decide +kernel
theorem dX5_carries_114 : decode cX5_carries 114 = .ok (.getfield 29, 3) := by decide +kernel
theorem dX5_carries_117 : decode cX5_carries 117 = .ok (.iconst 0, 1) := by decide +kernel
theorem dX5_carries_118 : decode cX5_carries 118 = .ok (.iaload, 1) := by decide +kernel
theorem dX5_carries_119 : decode cX5_carries 119 = .ok (.aload_n 0, 1) := by decide +kernel
theorem dX5_carries_120 : decode cX5_carries 120 = .ok (.getfield 29, 3) := by decide +kernel
theorem dX5_carries_123 : decode cX5_carries 123 = .ok (.iconst 1, 1) := by decide +kernel
theorem dX5_carries_124 : decode cX5_carries 124 = .ok (.iaload, 1) := by decide +kernel
theorem dX5_carries_125 : decode cX5_carries 125 = .ok (.aload_n 0, 1) := by decide +kernel
theorem dX5_carries_126 : decode cX5_carries 126 = .ok (.getfield 29, 3) := by decide +kernel
theorem dX5_carries_129 : decode cX5_carries 129 = .ok (.iconst 2, 1) := by decide +kernel
theorem dX5_carries_130 : decode cX5_carries 130 = .ok (.iaload, 1) := by decide +kernel
theorem dX5_carries_131 : decode cX5_carries 131 = .ok (.invokevirtual 120, 3) := by decide +kernel
theorem dX5_carries_134 : decode cX5_carries 134 = .ok (.ireturn, 1) := by decide +kernel
theorem dX5_carries_135 : decode cX5_carries 135 = .ok (.aload_n 0, 1) := by decide +kernel
theorem dX5_carries_136 : decode cX5_carries 136 = .ok (.aload_n 0, 1) := by decide +kernel
theorem dX5_carries_137 : decode cX5_carries 137 = .ok (.getfield 29, 3) := by decide +kernel
theorem dX5_carries_140 : decode cX5_carries 140 = .ok (.iconst 0, 1) := by decide +kernel
theorem dX5_carries_141 : decode cX5_carries 141 = .ok (.iaload, 1) := by decide +kernel
theorem dX5_carries_142 : decode cX5_carries 142 = .ok (.aload_n 0, 1) := by decide +kernel
theorem dX5_carries_143 : decode cX5_carries 143 = .ok (.getfield 29, 3) := by decide +kernel
theorem dX5_carries_146 : decode cX5_carries 146 = .ok (.iconst 1, 1) := by decide +kernel
theorem dX5_carries_147 : decode cX5_carries 147 = .ok (.iaload, 1) := by decide +kernel
theorem dX5_carries_148 : decode cX5_carries 148 = .ok (.invokevirtual 127, 3) := by decide +kernel
theorem dX5_carries_151 : decode cX5_carries 151 = .ok (.ireturn, 1) := by decide +kernel
theorem dX5_carries_152 : decode cX5_carries 152 = .ok (.aload_n 0, 1) := by decide +kernel
theorem dX5_carries_153 : decode cX5_carries 153 = .ok (.aload_n 0, 1) := by decide +kernel
theorem dX5_carries_154 : decode cX5_carries 154 = .ok (.getfield 29, 3) := by decide +kernel
theorem dX5_carries_157 : decode cX5_carries 157 = .ok (.iconst 0, 1) := by decide +kernel
theorem dX5_carries_158 : decode cX5_carries 158 = .ok (.iaload, 1) := by decide +kernel
theorem dX5_carries_159 : decode cX5_carries 159 = .ok (.invokevirtual 130, 3) := by decide +kernel
theorem dX5_carries_162 : decode cX5_carries 162 = .ok (.ireturn, 1) := by decide +kernel
theorem dX5_carries_163 : decode cX5_carries 163 = .ok (.aload_n 0, 1) := by decide +kernel
theorem dX5_carries_164 : decode cX5_carries 164 = .ok (.aload_n 0, 1) := by decide +kernel
theorem dX5_carries_165 : decode cX5_carries 165 = .ok (.getfield 29, 3) := by decide +kernel
theorem dX5_carries_168 : decode cX5_carries 168 = .ok (.iconst 0, 1) := by decide +kernel
theorem dX5_carries_169 : decode cX5_carries 169 = .ok (.iaload, 1) := by decide +kernel
theorem dX5_carries_170 : decode cX5_carries 170 = .ok (.invokevirtual 145, 3) := by decide +kernel
theorem dX5_carries_173 : decode cX5_carries 173 = .ok (.ireturn, 1) := by decide +kernel
theorem dX5_carries_174 : decode cX5_carries 174 = .ok (.aload_n 0, 1) := by decide +kernel
theorem dX5_carries_175 : decode cX5_carries 175 = .ok (.aload_n 0, 1) := by decide +kernel
theorem dX5_carries_176 : decode cX5_carries 176 = .ok (.getfield 29, 3) := by decide +kernel
theorem dX5_carries_179 : decode cX5_carries 179 = .ok (.iconst 0, 1) := by decide +kernel
theorem dX5_carries_180 : decode cX5_carries 180 = .ok (.iaload, 1) := by decide +kernel
theorem dX5_carries_181 : decode cX5_carries 181 = .ok (.invokevirtual 158, 3) := by decide +kernel
theorem dX5_carries_184 : decode cX5_carries 184 = .ok (.ireturn, 1) := by decide +kernel
theorem dX5_carries_185 : decode cX5_carries 185 = .ok (.aload_n 0, 1) := by decide +kernel
theorem dX5_carries_186 : decode cX5_carries 186 = .ok (.aload_n 0, 1) := by decide +kernel
theorem dX5_carries_187 : decode cX5_carries 187 = .ok (.getfield 29, 3) := by decide +kernel
theorem dX5_carries_190 : decode cX5_carries 190 = .ok (.iconst 0, 1) := by decide +kernel
theorem dX5_carries_191 : decode cX5_carries 191 = .ok (.iaload, 1) := by decide +kernel
theorem dX5_carries_192 : decode cX5_carries 192 = .ok (.invokevirtual 176, 3) := by decide +kernel
theorem dX5_carries_195 : decode cX5_carries 195 = .ok (.ireturn, 1) := by decide +kernel
theorem dX5_carries_196 : decode cX5_carries 196 = .ok (.aload_n 0, 1) := by decide +kernel
theorem dX5_carries_197 : decode cX5_carries 197 = .ok (.aload_n 0, 1) := by decide +kernel
theorem dX5_carries_198 : decode cX5_carries 198 = .ok (.getfield 29, 3) := by decide +kernel
theorem dX5_carries_201 : decode cX5_carries 201 = .ok (.iconst 0, 1) := by decide +kernel
theorem dX5_carries_202 : decode cX5_carries 202 = .ok (.iaload, 1) := by decide +kernel
theorem dX5_carries_203 : decode cX5_carries 203 = .ok (.invokevirtual 182, 3) := by decide +kernel
theorem dX5_carries_206 : decode cX5_carries 206 = .ok (.ireturn, 1) := by decide +kernel
theorem dX5_carries_207 : decode cX5_carries 207 = .ok (.aload_n 0, 1) := by decide +kernel
theorem dX5_carries_208 : decode cX5_carries 208 = .ok (.aload_n 0, 1) := by decide +kernel
theorem dX5_carries_209 : decode cX5_carries 209 = .ok (.getfield 29, 3) := by decide +kernel
theorem dX5_carries_212 : decode cX5_carries 212 = .ok (.iconst 0, 1) := by decide +kernel
theorem dX5_carries_213 : decode cX5_carries 213 = .ok (.iaload, 1) := by decide +kernel
theorem dX5_carries_214 : decode cX5_carries 214 = .ok (.invokevirtual 139, 3) := by decide +kernel
theorem dX5_carries_217 : decode cX5_carries 217 = .ok (.ireturn, 1) := by decide +kernel
theorem dX5_carries_218 : decode cX5_carries 218 = .ok (.aload_n 0, 1) := by decide +kernel
theorem dX5_carries_219 : decode cX5_carries 219 = .ok (.aload_n 0, 1) := by decide +kernel
theorem dX5_carries_220 : decode cX5_carries 220 = .ok (.getfield 29, 3) := by decide +kernel
theorem dX5_carries_223 : decode cX5_carries 223 = .ok (.iconst 0, 1) := by decide +kernel
theorem dX5_carries_224 : decode cX5_carries 224 = .ok (.iaload, 1) := by decide +kernel
theorem dX5_carries_225 : decode cX5_carries 225 = .ok (.invokevirtual 189, 3) := by decide +kernel
theorem dX5_carries_228 : decode cX5_carries 228 = .ok (.ireturn, 1) := by decide +kernel
theorem dX5_carries_229 : decode cX5_carries 229 = .ok (.aload_n 0, 1) := by decide +kernel
theorem dX5_carries_230 : decode cX5_carries 230 = .ok (.invokevirtual 161, 3) := by decide +kernel
theorem dX5_carries_233 : decode cX5_carries 233 = .ok (.ireturn, 1) := by decide +kernel
theorem dX5_commands_0 : decode cX5_commands 0 = .ok (.aload_n 0, 1) := by decide +kernel
theorem dX5_commands_1 : decode cX5_commands 1 = .ok (.invokevirtual 99, 3) := by decide +kernel
theorem dX5_commands_4 : decode cX5_commands 4 = .ok (.aload_n 0, 1) := by decide +kernel
theorem dX5_commands_5 : decode cX5_commands 5 = .ok (.iconst 0, 1) := by decide +kernel
theorem dX5_commands_6 : decode cX5_commands 6 = .ok (.putfield 201, 3) := by decide +kernel
theorem dX5_commands_9 : decode cX5_commands 9 = .ok (.aload_n 0, 1) := by decide +kernel
theorem dX5_commands_10 : decode cX5_commands 10 = .ok (.invokevirtual 215, 3) := by decide +kernel
theorem dX5_commands_13 : decode cX5_commands 13 = .ok (.istore_n 1, 1) := by decide +kernel
theorem dX5_commands_14 : decode cX5_commands 14 = .ok (.iload_n 1, 1) := by decide +kernel
theorem dX5_commands_15 : decode cX5_commands 15 = .ok (.ifCond .eq 39, 3) := by decide +kernel
theorem dX5_commands_18 : decode cX5_commands 18 = .ok (.aload_n 0, 1) := by decide +kernel
theorem dX5_commands_19 : decode cX5_commands 19 = .ok (.getfield 201, 3) := by decide +kernel
theorem dX5_commands_22 : decode cX5_commands 22 = .ok (.aload_n 0, 1) := by decide +kernel
theorem dX5_commands_23 : decode cX5_commands 23 = .ok (.getfield 198, 3) := by decide +kernel
theorem dX5_commands_26 : decode cX5_commands 26 = .ok (.if_icmp .ge 28, 3) := by decide +kernel
theorem dX5_commands_29 : decode cX5_commands 29 = .ok (.aload_n 0, 1) := by decide +kernel
theorem dX5_commands_30 : decode cX5_commands 30 = .ok (.bipush 59, 2) := by decide +kernel
theorem dX5_commands_32 : decode cX5_commands 32 = .ok (.invokevirtual 211, 3) := by decide +kernel
theorem dX5_commands_35 : decode cX5_commands 35 = .ok (.ifCond .eq 14, 3) := by decide +kernel
theorem dX5_commands_38 : decode cX5_commands 38 = .ok (.aload_n 0, 1) := by decide +kernel
theorem dX5_commands_39 : decode cX5_commands 39 = .ok (.invokevirtual 215, 3) := by decide +kernel
theorem dX5_commands_42 : decode cX5_commands 42 = .ok (.ifCond .eq 7, 3) := by decide +kernel
theorem dX5_commands_45 : decode cX5_commands 45 = .ok (.iconst 1, 1) := by decide +kernel
theorem dX5_commands_46 : decode cX5_commands 46 = .ok (.goto 4, 3) := by decide +kernel
theorem dX5_commands_49 : decode cX5_commands 49 = .ok (.iconst 0, 1) := by decide +kernel
theorem dX5_commands_50 : decode cX5_commands 50 = .ok (.istore_n 1, 1) := by decide +kernel
theorem dX5_commands_51 : decode cX5_commands 51 = .ok (.goto (-37), 3) := by decide +kernel
theorem dX5_commands_54 : decode cX5_commands 54 = .ok (.aload_n 0, 1) := by decide +kernel
theorem dX5_commands_55 : decode cX5_commands 55 = .ok (.iload_n 1, 1) := by decide +kernel
theorem dX5_commands_56 : decode cX5_commands 56 = .ok (.ifCond .eq 7, 3) := by decide +kernel
theorem dX5_commands_59 : decode cX5_commands 59 = .ok (.iconst (-1), 1) := by decide +kernel
theorem dX5_commands_60 : decode cX5_commands 60 = .ok (.goto 7, 3) := by decide +kernel
theorem dX5_commands_63 : decode cX5_commands 63 = .ok (.aload_n 0, 1) := by decide +kernel
theorem dX5_commands_64 : decode cX5_commands 64 = .ok (.getfield 201, 3) := by decide +kernel
theorem dX5_commands_67 : decode cX5_commands 67 = .ok (.putfield 32, 3) := by decide +kernel
theorem dX5_commands_70 : decode cX5_commands 70 = .ok (.iload_n 1, 1) := by decide +kernel
theorem dX5_commands_71 : decode cX5_commands 71 = .ok (.ifCond .ne 14, 3) := by decide +kernel
theorem dX5_commands_74 : decode cX5_commands 74 = .ok (.aload_n 0, 1) := by decide +kernel
theorem dX5_commands_75 : decode cX5_commands 75 = .ok (.iconst 0, 1) := by decide +kernel
theorem dX5_commands_76 : decode cX5_commands 76 = .ok (.putfield 198, 3) := by decide +kernel
theorem dX5_commands_79 : decode cX5_commands 79 = .ok (.aload_n 0, 1) := by decide +kernel
theorem dX5_commands_80 : decode cX5_commands 80 = .ok (.iconst 1, 1) := by decide +kernel
theorem dX5_commands_81 : decode cX5_commands 81 = .ok (.invokevirtual 61, 3) := by decide +kernel
theorem dX5_commands_84 : decode cX5_commands 84 = .ok (.ireturn, 1) := by decide +kernel
theorem dX5_commands_85 : decode cX5_commands 85 = .ok (.aload_n 0, 1) := by decide +kernel
theorem dX5_commands_86 : decode cX5_commands 86 = .ok (.iconst 0, 1) := by decide +kernel
theorem dX5_commands_87 : decode cX5_commands 87 = .ok (.putfield 201, 3) := by decide +kernel
theorem dX5_commands_90 : decode cX5_commands 90 = .ok (.iconst 0, 1) := by decide +kernel
theorem dX5_commands_91 : decode cX5_commands 91 = .ok (.istore_n 2, 1) := by decide +kernel
theorem dX5_commands_92 : decode cX5_commands 92 = .ok (.iconst 1, 1) := by decide +kernel
theorem dX5_commands_93 : decode cX5_commands 93 = .ok (.istore_n 3, 1) := by decide +kernel
theorem dX5_commands_94 : decode cX5_commands 94 = .ok (.iload_n 3, 1) := by decide +kernel
theorem dX5_commands_95 : decode cX5_commands 95 = .ok (.ifCond .eq 47, 3) := by decide +kernel
theorem dX5_commands_98 : decode cX5_commands 98 = .ok (.aload_n 0, 1) := by decide +kernel
theorem dX5_commands_99 : decode cX5_commands 99 = .ok (.invokevirtual 215, 3) := by decide +kernel
theorem dX5_commands_102 : decode cX5_commands 102 = .ok (.istore_n 1, 1) := by decide +kernel
theorem dX5_commands_103 : decode cX5_commands 103 = .ok (.aload_n 0, 1) := by decide +kernel
theorem dX5_commands_104 : decode cX5_commands 104 = .ok (.iload_n 2, 1) := by decide +kernel
theorem dX5_commands_105 : decode cX5_commands 105 = .ok (.putfield 39, 3) := by decide +kernel
theorem dX5_commands_108 : decode cX5_commands 108 = .ok (.aload_n 0, 1) := by decide +kernel
theorem dX5_commands_109 : decode cX5_commands 109 = .ok (.invokevirtual 218, 3) := by decide +kernel
theorem dX5_commands_112 : decode cX5_commands 112 = .ok (.istore_n 1, 1) := by decide +kernel
theorem dX5_commands_113 : decode cX5_commands 113 = .ok (.iload_n 1, 1) := by decide +kernel
theorem dX5_commands_114 : decode cX5_commands 114 = .ok (.ifCond .eq 6, 3) := by decide +kernel
theorem dX5_commands_117 : decode cX5_commands 117 = .ok (.iinc 2 1, 3) := by decide +kernel
theorem dX5_commands_120 : decode cX5_commands 120 = .ok (.iload_n 1, 1) := by decide +kernel
theorem dX5_commands_121 : decode cX5_commands 121 = .ok (.ifCond .eq 16, 3) := by decide +kernel
theorem dX5_commands_124 : decode cX5_commands 124 = .ok (.aload_n 0, 1) := by decide +kernel
theorem dX5_commands_125 : decode cX5_commands 125 = .ok (.bipush 59, 2) := by decide +kernel
theorem dX5_commands_127 : decode cX5_commands 127 = .ok (.invokevirtual 211, 3) := by decide +kernel
theorem dX5_commands_130 : decode cX5_commands 130 = .ok (.ifCond .eq 7, 3) := by decide +kernel
theorem dX5_commands_133 : decode cX5_commands 133 = .ok (.iconst 1, 1) := by decide +kernel
theorem dX5_commands_134 : decode cX5_commands 134 = .ok (.goto 4, 3) := by decide +kernel
theorem dX5_commands_137 : decode cX5_commands 137 = .ok (.iconst 0, 1) := by decide +kernel
theorem dX5_commands_138 : decode cX5_commands 138 = .ok (.istore_n 3, 1) := by decide +kernel
theorem dX5_commands_139 : decode cX5_commands 139 = .ok (.goto (-45), 3) := by decide +kernel
theorem dX5_commands_142 : decode cX5_commands 142 = .ok (.aload_n 0, 1) := by decide +kernel
theorem dX5_commands_143 : decode cX5_commands 143 = .ok (.iconst 0, 1) := by decide +kernel
theorem dX5_commands_144 : decode cX5_commands 144 = .ok (.putfield 198, 3) := by decide +kernel
theorem dX5_commands_147 : decode cX5_commands 147 = .ok (.iload_n 1, 1) := by decide +kernel
theorem dX5_commands_148 : decode cX5_commands 148 = .ok (.ifCond .eq 9, 3) := by decide +kernel
theorem dX5_commands_151 : decode cX5_commands 151 = .ok (.aload_n 0, 1) := by decide +kernel
theorem dX5_commands_152 : decode cX5_commands 152 = .ok (.iload_n 2, 1) := by decide +kernel
theorem dX5_commands_153 : decode cX5_commands 153 = .ok (.invokevirtual 57, 3) := by decide +kernel
theorem dX5_commands_156 : decode cX5_commands 156 = .ok (.ireturn, 1) := by decide +kernel
theorem dX5_commands_157 : decode cX5_commands 157 = .ok (.aload_n 0, 1) := by decide +kernel
theorem dX5_commands_158 : decode cX5_commands 158 = .ok (.invokevirtual 221, 3) := by decide +kernel
theorem dX5_commands_161 : decode cX5_commands 161 = .ok (.aload_n 0, 1) := by decide +kernel
theorem dX5_commands_162 : decode cX5_commands 162 = .ok (.iconst 2, 1) := by decide +kernel
theorem dX5_commands_163 : decode cX5_commands 163 = .ok (.invokevirtual 61, 3) := by decide +kernel
theorem dX5_commands_166 : decode cX5_commands 166 = .ok (.ireturn, 1) := by decide +kernel
theorem dX5_faultPosition_0 : decode cX5_faultPosition 0 = .ok (.aload_n 0, 1) := by decide +kernel
theorem dX5_faultPosition_1 : decode cX5_faultPosition 1 = .ok (.iconst 0, 1) := by decide +kernel
theorem dX5_faultPosition_2 : decode cX5_faultPosition 2 = .ok (.putfield 36, 3) := by decide +kernel
theorem dX5_faultPosition_5 : decode cX5_faultPosition 5 = .ok (.aload_n 0, 1) := by decide +kernel
theorem dX5_faultPosition_6 : decode cX5_faultPosition 6 = .ok (.getfield 32, 3) := by decide +kernel
theorem dX5_faultPosition_9 : decode cX5_faultPosition 9 = .ok (.ireturn, 1) := by decide +kernel
theorem dX5_reason_0 : decode cX5_reason 0 = .ok (.aload_n 0, 1) := by decide +kernel
theorem dX5_reason_1 : decode cX5_reason 1 = .ok (.iconst 0, 1) := by decide +kernel
theorem dX5_reason_2 : decode cX5_reason 2 = .ok (.putfield 36, 3) := by decide +kernel
theorem dX5_reason_5 : decode cX5_reason 5 = .ok (.iload_n 1, 1) := by decide +kernel
theorem dX5_reason_6 : decode cX5_reason 6 = .ok (.iconst 0, 1) := by decide +kernel
theorem dX5_reason_7 : decode cX5_reason 7 = .ok (.iconst 2, 1) := by decide +kernel
theorem dX5_reason_8 : decode cX5_reason 8 = .ok (.invokestatic 73, 3) := by decide +kernel
theorem dX5_reason_11 : decode cX5_reason 11 = .ok (.ifCond .ne 9, 3) := by decide +kernel
theorem dX5_reason_14 : decode cX5_reason 14 = .ok (.aload_n 0, 1) := by decide +kernel
theorem dX5_reason_15 : decode cX5_reason 15 = .ok (.iconst 1, 1) := by decide +kernel
theorem dX5_reason_16 : decode cX5_reason 16 = .ok (.invokevirtual 61, 3) := by decide +kernel
theorem dX5_reason_19 : decode cX5_reason 19 = .ok (.ireturn, 1) := by decide +kernel
theorem dX5_reason_20 : decode cX5_reason 20 = .ok (.aload_n 0, 1) := by decide +kernel
theorem dX5_reason_21 : decode cX5_reason 21 = .ok (.getfield 45, 3) := by decide +kernel
theorem dX5_reason_24 : decode cX5_reason 24 = .ok (.ifCond .ne 9, 3) := by decide +kernel
theorem dX5_reason_27 : decode cX5_reason 27 = .ok (.aload_n 0, 1) := by decide +kernel
theorem dX5_reason_28 : decode cX5_reason 28 = .ok (.iconst 2, 1) := by decide +kernel
theorem dX5_reason_29 : decode cX5_reason 29 = .ok (.invokevirtual 61, 3) := by decide +kernel
theorem dX5_reason_32 : decode cX5_reason 32 = .ok (.ireturn, 1) := by decide +kernel
theorem dX5_reason_33 : decode cX5_reason 33 = .ok (.iload_n 1, 1) := by decide +kernel
theorem dX5_reason_34 : decode cX5_reason 34 = .ok (.ifCond .ne 10, 3) := by decide +kernel
theorem dX5_reason_37 : decode cX5_reason 37 = .ok (.aload_n 0, 1) := by decide +kernel
theorem dX5_reason_38 : decode cX5_reason 38 = .ok (.getfield 45, 3) := by decide +kernel
theorem dX5_reason_41 : decode cX5_reason 41 = .ok (.goto 19, 3) := by decide +kernel
theorem dX5_reason_44 : decode cX5_reason 44 = .ok (.iload_n 1, 1) := by decide +kernel
theorem dX5_reason_45 : decode cX5_reason 45 = .ok (.iconst 1, 1) := by decide +kernel
theorem dX5_reason_46 : decode cX5_reason 46 = .ok (.if_icmp .ne 10, 3) := by decide +kernel
theorem dX5_reason_49 : decode cX5_reason 49 = .ok (.aload_n 0, 1) := by decide +kernel
theorem dX5_reason_50 : decode cX5_reason 50 = .ok (.getfield 48, 3) := by decide +kernel
theorem dX5_reason_53 : decode cX5_reason 53 = .ok (.goto 7, 3) := by decide +kernel
theorem dX5_reason_56 : decode cX5_reason 56 = .ok (.aload_n 0, 1) := by decide +kernel
theorem dX5_reason_57 : decode cX5_reason 57 = .ok (.getfield 51, 3) := by decide +kernel
theorem dX5_reason_60 : decode cX5_reason 60 = .ok (.ireturn, 1) := by decide +kernel
theorem dX5_writesNumber_0 : decode cX5_writesNumber 0 = .ok (.iload_n 1, 1) := by decide +kernel
theorem dX5_writesNumber_1 : decode cX5_writesNumber 1 = .ok (.bipush 9, 2) := by decide +kernel
theorem dX5_writesNumber_3 : decode cX5_writesNumber 3 = .ok (.if_icmp .le 11, 3) := by decide +kernel
theorem dX5_writesNumber_6 : decode cX5_writesNumber 6 = .ok (.aload_n 0, 1) := by decide +kernel
theorem dX5_writesNumber_7 : decode cX5_writesNumber 7 = .ok (.iload_n 1, 1) := by decide +kernel
theorem dX5_writesNumber_8 : decode cX5_writesNumber 8 = .ok (.bipush 10, 2) := by decide +kernel
theorem dX5_writesNumber_10 : decode cX5_writesNumber 10 = .ok (.idiv, 1) := by decide +kernel
theorem dX5_writesNumber_11 : decode cX5_writesNumber 11 = .ok (.invokevirtual 224, 3) := by decide +kernel
theorem dX5_writesNumber_14 : decode cX5_writesNumber 14 = .ok (.aload_n 0, 1) := by decide +kernel
theorem dX5_writesNumber_15 : decode cX5_writesNumber 15 = .ok (.getfield 22, 3) := by decide +kernel
theorem dX5_writesNumber_18 : decode cX5_writesNumber 18 = .ok (.aload_n 0, 1) := by decide +kernel
theorem dX5_writesNumber_19 : decode cX5_writesNumber 19 = .ok (.dup, 1) := by decide +kernel
theorem dX5_writesNumber_20 : decode cX5_writesNumber 20 = .ok (.getfield 227, 3) := by decide +kernel
theorem dX5_writesNumber_23 : decode cX5_writesNumber 23 = .ok (.dup_x1, 1) := by decide +kernel
theorem dX5_writesNumber_24 : decode cX5_writesNumber 24 = .ok (.iconst 1, 1) := by decide +kernel
theorem dX5_writesNumber_25 : decode cX5_writesNumber 25 = .ok (.iadd, 1) := by decide +kernel
theorem dX5_writesNumber_26 : decode cX5_writesNumber 26 = .ok (.putfield 227, 3) := by decide +kernel
theorem dX5_writesNumber_29 : decode cX5_writesNumber 29 = .ok (.bipush 48, 2) := by decide +kernel
theorem dX5_writesNumber_31 : decode cX5_writesNumber 31 = .ok (.iload_n 1, 1) := by decide +kernel
theorem dX5_writesNumber_32 : decode cX5_writesNumber 32 = .ok (.bipush 10, 2) := by decide +kernel
theorem dX5_writesNumber_34 : decode cX5_writesNumber 34 = .ok (.irem, 1) := by decide +kernel
theorem dX5_writesNumber_35 : decode cX5_writesNumber 35 = .ok (.iadd, 1) := by decide +kernel
theorem dX5_writesNumber_36 : decode cX5_writesNumber 36 = .ok (.iastore, 1) := by decide +kernel
theorem dX5_writesNumber_37 : decode cX5_writesNumber 37 = .ok (.return_, 1) := by decide +kernel
theorem dX5_line_0 : decode cX5_line 0 = .ok (.aload_n 0, 1) := by decide +kernel
theorem dX5_line_1 : decode cX5_line 1 = .ok (.iconst 0, 1) := by decide +kernel
theorem dX5_line_2 : decode cX5_line 2 = .ok (.putfield 36, 3) := by decide +kernel
theorem dX5_line_5 : decode cX5_line 5 = .ok (.aload_n 0, 1) := by decide +kernel
theorem dX5_line_6 : decode cX5_line 6 = .ok (.iload_n 1, 1) := by decide +kernel
theorem dX5_line_7 : decode cX5_line 7 = .ok (.invokevirtual 110, 3) := by decide +kernel
theorem dX5_line_10 : decode cX5_line 10 = .ok (.ifCond .ne 9, 3) := by decide +kernel
theorem dX5_line_13 : decode cX5_line 13 = .ok (.aload_n 0, 1) := by decide +kernel
theorem dX5_line_14 : decode cX5_line 14 = .ok (.iconst 1, 1) := by decide +kernel
theorem dX5_line_15 : decode cX5_line 15 = .ok (.invokevirtual 61, 3) := by decide +kernel
theorem dX5_line_18 : decode cX5_line 18 = .ok (.ireturn, 1) := by decide +kernel
theorem dX5_line_19 : decode cX5_line 19 = .ok (.aload_n 0, 1) := by decide +kernel
theorem dX5_line_20 : decode cX5_line 20 = .ok (.aload_n 0, 1) := by decide +kernel
theorem dX5_line_21 : decode cX5_line 21 = .ok (.iload_n 1, 1) := by decide +kernel
theorem dX5_line_22 : decode cX5_line 22 = .ok (.invokevirtual 89, 3) := by decide +kernel
theorem dX5_line_25 : decode cX5_line 25 = .ok (.invokevirtual 92, 3) := by decide +kernel
theorem dX5_line_28 : decode cX5_line 28 = .ok (.istore_n 2, 1) := by decide +kernel
theorem dX5_line_29 : decode cX5_line 29 = .ok (.aload_n 0, 1) := by decide +kernel
theorem dX5_line_30 : decode cX5_line 30 = .ok (.iconst 0, 1) := by decide +kernel
theorem dX5_line_31 : decode cX5_line 31 = .ok (.putfield 227, 3) := by decide +kernel
theorem dX5_line_34 : decode cX5_line 34 = .ok (.bipush 7, 2) := by decide +kernel
theorem dX5_line_36 : decode cX5_line 36 = .ok (.istore_n 3, 1) := by decide +kernel
theorem dX5_line_37 : decode cX5_line 37 = .ok (.iload_n 3, 1) := by decide +kernel
theorem dX5_line_38 : decode cX5_line 38 = .ok (.ifCond .lt 56, 3) := by decide +kernel
theorem dX5_line_41 : decode cX5_line 41 = .ok (.aload_n 0, 1) := by decide +kernel
theorem dX5_line_42 : decode cX5_line 42 = .ok (.getfield 80, 3) := by decide +kernel
theorem dX5_line_45 : decode cX5_line 45 = .ok (.iload_n 3, 1) := by decide +kernel
theorem dX5_line_46 : decode cX5_line 46 = .ok (.ishr, 1) := by decide +kernel
theorem dX5_line_47 : decode cX5_line 47 = .ok (.iconst 1, 1) := by decide +kernel
theorem dX5_line_48 : decode cX5_line 48 = .ok (.iand, 1) := by decide +kernel
theorem dX5_line_49 : decode cX5_line 49 = .ok (.ifCond .ne 6, 3) := by decide +kernel
theorem dX5_line_52 : decode cX5_line 52 = .ok (.goto 36, 3) := by decide +kernel
theorem dX5_line_55 : decode cX5_line 55 = .ok (.aload_n 0, 1) := by decide +kernel
theorem dX5_line_56 : decode cX5_line 56 = .ok (.getfield 227, 3) := by decide +kernel
theorem dX5_line_59 : decode cX5_line 59 = .ok (.ifCond .le 21, 3) := by decide +kernel
theorem dX5_line_62 : decode cX5_line 62 = .ok (.aload_n 0, 1) := by decide +kernel
theorem dX5_line_63 : decode cX5_line 63 = .ok (.getfield 22, 3) := by decide +kernel
theorem dX5_line_66 : decode cX5_line 66 = .ok (.aload_n 0, 1) := by decide +kernel
theorem dX5_line_67 : decode cX5_line 67 = .ok (.dup, 1) := by decide +kernel
theorem dX5_line_68 : decode cX5_line 68 = .ok (.getfield 227, 3) := by decide +kernel
theorem dX5_line_71 : decode cX5_line 71 = .ok (.dup_x1, 1) := by decide +kernel
theorem dX5_line_72 : decode cX5_line 72 = .ok (.iconst 1, 1) := by decide +kernel
theorem dX5_line_73 : decode cX5_line 73 = .ok (.iadd, 1) := by decide +kernel
theorem dX5_line_74 : decode cX5_line 74 = .ok (.putfield 227, 3) := by decide +kernel
theorem dX5_line_77 : decode cX5_line 77 = .ok (.bipush 43, 2) := by decide +kernel
theorem dX5_line_79 : decode cX5_line 79 = .ok (.iastore, 1) := by decide +kernel
theorem dX5_line_80 : decode cX5_line 80 = .ok (.aload_n 0, 1) := by decide +kernel
theorem dX5_line_81 : decode cX5_line 81 = .ok (.iload_n 3, 1) := by decide +kernel
theorem dX5_line_82 : decode cX5_line 82 = .ok (.invokestatic 64, 3) := by decide +kernel
theorem dX5_line_85 : decode cX5_line 85 = .ok (.invokevirtual 224, 3) := by decide +kernel
theorem dX5_line_88 : decode cX5_line 88 = .ok (.iinc 3 (-1), 3) := by decide +kernel
theorem dX5_line_91 : decode cX5_line 91 = .ok (.goto (-54), 3) := by decide +kernel
theorem dX5_line_94 : decode cX5_line 94 = .ok (.aload_n 0, 1) := by decide +kernel
theorem dX5_line_95 : decode cX5_line 95 = .ok (.getfield 22, 3) := by decide +kernel
theorem dX5_line_98 : decode cX5_line 98 = .ok (.aload_n 0, 1) := by decide +kernel
theorem dX5_line_99 : decode cX5_line 99 = .ok (.dup, 1) := by decide +kernel
theorem dX5_line_100 : decode cX5_line 100 = .ok (.getfield 227, 3) := by decide +kernel
theorem dX5_line_103 : decode cX5_line 103 = .ok (.dup_x1, 1) := by decide +kernel
theorem dX5_line_104 : decode cX5_line 104 = .ok (.iconst 1, 1) := by decide +kernel
theorem dX5_line_105 : decode cX5_line 105 = .ok (.iadd, 1) := by decide +kernel
theorem dX5_line_106 : decode cX5_line 106 = .ok (.putfield 227, 3) := by decide +kernel
theorem dX5_line_109 : decode cX5_line 109 = .ok (.bipush 61, 2) := by decide +kernel
theorem dX5_line_111 : decode cX5_line 111 = .ok (.iastore, 1) := by decide +kernel
theorem dX5_line_112 : decode cX5_line 112 = .ok (.aload_n 0, 1) := by decide +kernel
theorem dX5_line_113 : decode cX5_line 113 = .ok (.iload_n 2, 1) := by decide +kernel
theorem dX5_line_114 : decode cX5_line 114 = .ok (.invokevirtual 224, 3) := by decide +kernel
theorem dX5_line_117 : decode cX5_line 117 = .ok (.aload_n 0, 1) := by decide +kernel
theorem dX5_line_118 : decode cX5_line 118 = .ok (.getfield 227, 3) := by decide +kernel
theorem dX5_line_121 : decode cX5_line 121 = .ok (.ireturn, 1) := by decide +kernel
theorem dX5_character_0 : decode cX5_character 0 = .ok (.aload_n 0, 1) := by decide +kernel
theorem dX5_character_1 : decode cX5_character 1 = .ok (.iload_n 1, 1) := by decide +kernel
theorem dX5_character_2 : decode cX5_character 2 = .ok (.iconst 0, 1) := by decide +kernel
theorem dX5_character_3 : decode cX5_character 3 = .ok (.aload_n 0, 1) := by decide +kernel
theorem dX5_character_4 : decode cX5_character 4 = .ok (.getfield 227, 3) := by decide +kernel
theorem dX5_character_7 : decode cX5_character 7 = .ok (.iconst 1, 1) := by decide +kernel
theorem dX5_character_8 : decode cX5_character 8 = .ok (.isub, 1) := by decide +kernel
theorem dX5_character_9 : decode cX5_character 9 = .ok (.invokestatic 73, 3) := by decide +kernel
theorem dX5_character_12 : decode cX5_character 12 = .ok (.ifCond .eq 7, 3) := by decide +kernel
theorem dX5_character_15 : decode cX5_character 15 = .ok (.iconst 0, 1) := by decide +kernel
theorem dX5_character_16 : decode cX5_character 16 = .ok (.goto 4, 3) := by decide +kernel
theorem dX5_character_19 : decode cX5_character 19 = .ok (.iconst 1, 1) := by decide +kernel
theorem dX5_character_20 : decode cX5_character 20 = .ok (.putfield 36, 3) := by decide +kernel
theorem dX5_character_23 : decode cX5_character 23 = .ok (.aload_n 0, 1) := by decide +kernel
theorem dX5_character_24 : decode cX5_character 24 = .ok (.getfield 36, 3) := by decide +kernel
theorem dX5_character_27 : decode cX5_character 27 = .ok (.ifCond .ne 13, 3) := by decide +kernel
theorem dX5_character_30 : decode cX5_character 30 = .ok (.aload_n 0, 1) := by decide +kernel
theorem dX5_character_31 : decode cX5_character 31 = .ok (.getfield 22, 3) := by decide +kernel
theorem dX5_character_34 : decode cX5_character 34 = .ok (.iload_n 1, 1) := by decide +kernel
theorem dX5_character_35 : decode cX5_character 35 = .ok (.iaload, 1) := by decide +kernel
theorem dX5_character_36 : decode cX5_character 36 = .ok (.i2c, 1) := by decide +kernel
theorem dX5_character_37 : decode cX5_character 37 = .ok (.goto 5, 3) := by decide +kernel
theorem dX5_character_40 : decode cX5_character 40 = .ok (.bipush 97, 2) := by decide +kernel
theorem dX5_character_42 : decode cX5_character 42 = .ok (.ireturn, 1) := by decide +kernel
theorem dX5_meanDust_0 : decode cX5_meanDust 0 = .ok (.aload_n 0, 1) := by decide +kernel
theorem dX5_meanDust_1 : decode cX5_meanDust 1 = .ok (.iconst 0, 1) := by decide +kernel
theorem dX5_meanDust_2 : decode cX5_meanDust 2 = .ok (.putfield 36, 3) := by decide +kernel
theorem dX5_meanDust_5 : decode cX5_meanDust 5 = .ok (.aload_n 0, 1) := by decide +kernel
theorem dX5_meanDust_6 : decode cX5_meanDust 6 = .ok (.getfield 9, 3) := by decide +kernel
theorem dX5_meanDust_9 : decode cX5_meanDust 9 = .ok (.iconst 5, 1) := by decide +kernel
theorem dX5_meanDust_10 : decode cX5_meanDust 10 = .ok (.iaload, 1) := by decide +kernel
theorem dX5_meanDust_11 : decode cX5_meanDust 11 = .ok (.istore_n 1, 1) := by decide +kernel
theorem dX5_meanDust_12 : decode cX5_meanDust 12 = .ok (.iload_n 1, 1) := by decide +kernel
theorem dX5_meanDust_13 : decode cX5_meanDust 13 = .ok (.ifCond .ne 10, 3) := by decide +kernel
theorem dX5_meanDust_16 : decode cX5_meanDust 16 = .ok (.aload_n 0, 1) := by decide +kernel
theorem dX5_meanDust_17 : decode cX5_meanDust 17 = .ok (.iconst 1, 1) := by decide +kernel
theorem dX5_meanDust_18 : decode cX5_meanDust 18 = .ok (.invokevirtual 61, 3) := by decide +kernel
theorem dX5_meanDust_21 : decode cX5_meanDust 21 = .ok (.i2f, 1) := by decide +kernel
theorem dX5_meanDust_22 : decode cX5_meanDust 22 = .ok (.freturn, 1) := by decide +kernel
theorem dX5_meanDust_23 : decode cX5_meanDust 23 = .ok (.aload_n 0, 1) := by decide +kernel
theorem dX5_meanDust_24 : decode cX5_meanDust 24 = .ok (.invokevirtual 185, 3) := by decide +kernel
theorem dX5_meanDust_27 : decode cX5_meanDust 27 = .ok (.i2f, 1) := by decide +kernel
theorem dX5_meanDust_28 : decode cX5_meanDust 28 = .ok (.iload_n 1, 1) := by decide +kernel
theorem dX5_meanDust_29 : decode cX5_meanDust 29 = .ok (.i2f, 1) := by decide +kernel
theorem dX5_meanDust_30 : decode cX5_meanDust 30 = .ok (.fdiv, 1) := by decide +kernel
theorem dX5_meanDust_31 : decode cX5_meanDust 31 = .ok (.freturn, 1) := by decide +kernel
theorem dX5_honestShare_0 : decode cX5_honestShare 0 = .ok (.aload_n 0, 1) := by decide +kernel
theorem dX5_honestShare_1 : decode cX5_honestShare 1 = .ok (.iconst 0, 1) := by decide +kernel
theorem dX5_honestShare_2 : decode cX5_honestShare 2 = .ok (.putfield 36, 3) := by decide +kernel
theorem dX5_honestShare_5 : decode cX5_honestShare 5 = .ok (.aload_n 0, 1) := by decide +kernel
theorem dX5_honestShare_6 : decode cX5_honestShare 6 = .ok (.getfield 9, 3) := by decide +kernel
theorem dX5_honestShare_9 : decode cX5_honestShare 9 = .ok (.bipush 8, 2) := by decide +kernel
theorem dX5_honestShare_11 : decode cX5_honestShare 11 = .ok (.iaload, 1) := by decide +kernel
theorem dX5_honestShare_12 : decode cX5_honestShare 12 = .ok (.ifCond .ne 10, 3) := by decide +kernel
theorem dX5_honestShare_15 : decode cX5_honestShare 15 = .ok (.aload_n 0, 1) := by decide +kernel
theorem dX5_honestShare_16 : decode cX5_honestShare 16 = .ok (.iconst 1, 1) := by decide +kernel
theorem dX5_honestShare_17 : decode cX5_honestShare 17 = .ok (.invokevirtual 61, 3) := by decide +kernel
theorem dX5_honestShare_20 : decode cX5_honestShare 20 = .ok (.i2d, 1) := by decide +kernel
theorem dX5_honestShare_21 : decode cX5_honestShare 21 = .ok (.dreturn, 1) := by decide +kernel
theorem dX5_honestShare_22 : decode cX5_honestShare 22 = .ok (.aload_n 0, 1) := by decide +kernel
theorem dX5_honestShare_23 : decode cX5_honestShare 23 = .ok (.getfield 9, 3) := by decide +kernel
theorem dX5_honestShare_26 : decode cX5_honestShare 26 = .ok (.bipush 6, 2) := by decide +kernel
theorem dX5_honestShare_28 : decode cX5_honestShare 28 = .ok (.iaload, 1) := by decide +kernel
theorem dX5_honestShare_29 : decode cX5_honestShare 29 = .ok (.i2d, 1) := by decide +kernel
theorem dX5_honestShare_30 : decode cX5_honestShare 30 = .ok (.aload_n 0, 1) := by decide +kernel
theorem dX5_honestShare_31 : decode cX5_honestShare 31 = .ok (.getfield 9, 3) := by decide +kernel
theorem dX5_honestShare_34 : decode cX5_honestShare 34 = .ok (.bipush 7, 2) := by decide +kernel
theorem dX5_honestShare_36 : decode cX5_honestShare 36 = .ok (.iaload, 1) := by decide +kernel
theorem dX5_honestShare_37 : decode cX5_honestShare 37 = .ok (.i2d, 1) := by decide +kernel
theorem dX5_honestShare_38 : decode cX5_honestShare 38 = .ok (.ddiv, 1) := by decide +kernel
theorem dX5_honestShare_39 : decode cX5_honestShare 39 = .ok (.dreturn, 1) := by decide +kernel
theorem dX5_account_0 : decode cX5_account 0 = .ok (.aload_n 0, 1) := by decide +kernel
theorem dX5_account_1 : decode cX5_account 1 = .ok (.iconst 0, 1) := by decide +kernel
theorem dX5_account_2 : decode cX5_account 2 = .ok (.putfield 36, 3) := by decide +kernel
theorem dX5_account_5 : decode cX5_account 5 = .ok (.iconst 0, 1) := by decide +kernel
theorem dX5_account_6 : decode cX5_account 6 = .ok (.istore_n 2, 1) := by decide +kernel
theorem dX5_account_7 : decode cX5_account 7 = .ok (.iload_n 1, 1) := by decide +kernel
theorem dX5_account_8 : decode cX5_account 8 = .ok (.tableswitch 221 0 15 #[80, 80, 80, 80, 80, 80, 87, 123, 152, 152, 152, 152, 161, 187, 211, 216], 80) := by decide +kernel
theorem dX5_account_88 : decode cX5_account 88 = .ok (.aload_n 0, 1) := by decide +kernel
theorem dX5_account_89 : decode cX5_account 89 = .ok (.getfield 9, 3) := by decide +kernel
theorem dX5_account_92 : decode cX5_account 92 = .ok (.iload_n 1, 1) := by decide +kernel
theorem dX5_account_93 : decode cX5_account 93 = .ok (.iaload, 1) := by decide +kernel
theorem dX5_account_94 : decode cX5_account 94 = .ok (.ireturn, 1) := by decide +kernel
theorem dX5_account_95 : decode cX5_account 95 = .ok (.iconst 0, 1) := by decide +kernel
theorem dX5_account_96 : decode cX5_account 96 = .ok (.istore_n 3, 1) := by decide +kernel
theorem dX5_account_97 : decode cX5_account 97 = .ok (.iload_n 3, 1) := by decide +kernel
theorem dX5_account_98 : decode cX5_account 98 = .ok (.aload_n 0, 1) := by decide +kernel
theorem dX5_account_99 : decode cX5_account 99 = .ok (.getfield 9, 3) := by decide +kernel
theorem dX5_account_102 : decode cX5_account 102 = .ok (.iconst 4, 1) := by decide +kernel
theorem dX5_account_103 : decode cX5_account 103 = .ok (.iaload, 1) := by decide +kernel
theorem dX5_account_104 : decode cX5_account 104 = .ok (.if_icmp .ge 25, 3) := by decide +kernel
theorem dX5_account_107 : decode cX5_account 107 = .ok (.iload_n 2, 1) := by decide +kernel
theorem dX5_account_108 : decode cX5_account 108 = .ok (.aload_n 0, 1) := by decide +kernel
theorem dX5_account_109 : decode cX5_account 109 = .ok (.getfield 9, 3) := by decide +kernel
theorem dX5_account_112 : decode cX5_account 112 = .ok (.bipush 22, 2) := by decide +kernel
theorem dX5_account_114 : decode cX5_account 114 = .ok (.iconst 2, 1) := by decide +kernel
theorem dX5_account_115 : decode cX5_account 115 = .ok (.iload_n 3, 1) := by decide +kernel
theorem dX5_account_116 : decode cX5_account 116 = .ok (.imul, 1) := by decide +kernel
theorem dX5_account_117 : decode cX5_account 117 = .ok (.iadd, 1) := by decide +kernel
theorem dX5_account_118 : decode cX5_account 118 = .ok (.iconst 1, 1) := by decide +kernel
theorem dX5_account_119 : decode cX5_account 119 = .ok (.iadd, 1) := by decide +kernel
theorem dX5_account_120 : decode cX5_account 120 = .ok (.iaload, 1) := by decide +kernel
theorem dX5_account_121 : decode cX5_account 121 = .ok (.iadd, 1) := by decide +kernel
theorem dX5_account_122 : decode cX5_account 122 = .ok (.istore_n 2, 1) := by decide +kernel
theorem dX5_account_123 : decode cX5_account 123 = .ok (.iinc 3 1, 3) := by decide +kernel
theorem dX5_account_126 : decode cX5_account 126 = .ok (.goto (-29), 3) := by decide +kernel
theorem dX5_account_129 : decode cX5_account 129 = .ok (.iload_n 2, 1) := by decide +kernel
theorem dX5_account_130 : decode cX5_account 130 = .ok (.ireturn, 1) := by decide +kernel
theorem dX5_account_131 : decode cX5_account 131 = .ok (.iconst 0, 1) := by decide +kernel
theorem dX5_account_132 : decode cX5_account 132 = .ok (.istore_n 3, 1) := by decide +kernel
theorem dX5_account_133 : decode cX5_account 133 = .ok (.iload_n 3, 1) := by decide +kernel
theorem dX5_account_134 : decode cX5_account 134 = .ok (.aload_n 0, 1) := by decide +kernel
theorem dX5_account_135 : decode cX5_account 135 = .ok (.getfield 9, 3) := by decide +kernel
theorem dX5_account_138 : decode cX5_account 138 = .ok (.iconst 5, 1) := by decide +kernel
theorem dX5_account_139 : decode cX5_account 139 = .ok (.iaload, 1) := by decide +kernel
theorem dX5_account_140 : decode cX5_account 140 = .ok (.if_icmp .ge 18, 3) := by decide +kernel
theorem dX5_account_143 : decode cX5_account 143 = .ok (.iload_n 2, 1) := by decide +kernel
theorem dX5_account_144 : decode cX5_account 144 = .ok (.aload_n 0, 1) := by decide +kernel
theorem dX5_account_145 : decode cX5_account 145 = .ok (.iload_n 3, 1) := by decide +kernel
theorem dX5_account_146 : decode cX5_account 146 = .ok (.iconst 3, 1) := by decide +kernel
theorem dX5_account_147 : decode cX5_account 147 = .ok (.invokevirtual 77, 3) := by decide +kernel
theorem dX5_account_150 : decode cX5_account 150 = .ok (.iadd, 1) := by decide +kernel
theorem dX5_account_151 : decode cX5_account 151 = .ok (.istore_n 2, 1) := by decide +kernel
theorem dX5_account_152 : decode cX5_account 152 = .ok (.iinc 3 1, 3) := by decide +kernel
theorem dX5_account_155 : decode cX5_account 155 = .ok (.goto (-22), 3) := by decide +kernel
theorem dX5_account_158 : decode cX5_account 158 = .ok (.iload_n 2, 1) := by decide +kernel
theorem dX5_account_159 : decode cX5_account 159 = .ok (.ireturn, 1) := by decide +kernel
theorem dX5_account_160 : decode cX5_account 160 = .ok (.aload_n 0, 1) := by decide +kernel
theorem dX5_account_161 : decode cX5_account 161 = .ok (.getfield 9, 3) := by decide +kernel
theorem dX5_account_164 : decode cX5_account 164 = .ok (.iload_n 1, 1) := by decide +kernel
theorem dX5_account_165 : decode cX5_account 165 = .ok (.iconst 2, 1) := by decide +kernel
theorem dX5_account_166 : decode cX5_account 166 = .ok (.isub, 1) := by decide +kernel
theorem dX5_account_167 : decode cX5_account 167 = .ok (.iaload, 1) := by decide +kernel
theorem dX5_account_168 : decode cX5_account 168 = .ok (.ireturn, 1) := by decide +kernel
theorem dX5_account_169 : decode cX5_account 169 = .ok (.iconst 0, 1) := by decide +kernel
theorem dX5_account_170 : decode cX5_account 170 = .ok (.istore_n 3, 1) := by decide +kernel
theorem dX5_account_171 : decode cX5_account 171 = .ok (.iload_n 3, 1) := by decide +kernel
theorem dX5_account_172 : decode cX5_account 172 = .ok (.iconst 4, 1) := by decide +kernel
theorem dX5_account_173 : decode cX5_account 173 = .ok (.if_icmp .ge 20, 3) := by decide +kernel
theorem dX5_account_176 : decode cX5_account 176 = .ok (.aload_n 0, 1) := by decide +kernel
theorem dX5_account_177 : decode cX5_account 177 = .ok (.iload_n 3, 1) := by decide +kernel
theorem dX5_account_178 : decode cX5_account 178 = .ok (.invokevirtual 133, 3) := by decide +kernel
theorem dX5_account_181 : decode cX5_account 181 = .ok (.ifCond .eq 6, 3) := by decide +kernel
theorem dX5_account_184 : decode cX5_account 184 = .ok (.iinc 2 1, 3) := by decide +kernel
theorem dX5_account_187 : decode cX5_account 187 = .ok (.iinc 3 1, 3) := by decide +kernel
theorem dX5_account_190 : decode cX5_account 190 = .ok (.goto (-19), 3) := by decide +kernel
theorem dX5_account_193 : decode cX5_account 193 = .ok (.iload_n 2, 1) := by decide +kernel
theorem dX5_account_194 : decode cX5_account 194 = .ok (.ireturn, 1) := by decide +kernel
theorem dX5_account_195 : decode cX5_account 195 = .ok (.iconst 0, 1) := by decide +kernel
theorem dX5_account_196 : decode cX5_account 196 = .ok (.istore_n 3, 1) := by decide +kernel
theorem dX5_account_197 : decode cX5_account 197 = .ok (.iload_n 3, 1) := by decide +kernel
theorem dX5_account_198 : decode cX5_account 198 = .ok (.bipush 8, 2) := by decide +kernel
theorem dX5_account_200 : decode cX5_account 200 = .ok (.if_icmp .ge 17, 3) := by decide +kernel
theorem dX5_account_203 : decode cX5_account 203 = .ok (.iload_n 2, 1) := by decide +kernel
theorem dX5_account_204 : decode cX5_account 204 = .ok (.aload_n 0, 1) := by decide +kernel
theorem dX5_account_205 : decode cX5_account 205 = .ok (.iload_n 3, 1) := by decide +kernel
theorem dX5_account_206 : decode cX5_account 206 = .ok (.invokevirtual 86, 3) := by decide +kernel
theorem dX5_account_209 : decode cX5_account 209 = .ok (.iadd, 1) := by decide +kernel
theorem dX5_account_210 : decode cX5_account 210 = .ok (.istore_n 2, 1) := by decide +kernel
theorem dX5_account_211 : decode cX5_account 211 = .ok (.iinc 3 1, 3) := by decide +kernel
theorem dX5_account_214 : decode cX5_account 214 = .ok (.goto (-17), 3) := by decide +kernel
theorem dX5_account_217 : decode cX5_account 217 = .ok (.iload_n 2, 1) := by decide +kernel
theorem dX5_account_218 : decode cX5_account 218 = .ok (.ireturn, 1) := by decide +kernel
theorem dX5_account_219 : decode cX5_account 219 = .ok (.aload_n 0, 1) := by decide +kernel
theorem dX5_account_220 : decode cX5_account 220 = .ok (.getfield 42, 3) := by decide +kernel
theorem dX5_account_223 : decode cX5_account 223 = .ok (.ireturn, 1) := by decide +kernel
theorem dX5_account_224 : decode cX5_account 224 = .ok (.aload_n 0, 1) := by decide +kernel
theorem dX5_account_225 : decode cX5_account 225 = .ok (.getfield 198, 3) := by decide +kernel
theorem dX5_account_228 : decode cX5_account 228 = .ok (.ireturn, 1) := by decide +kernel
theorem dX5_account_229 : decode cX5_account 229 = .ok (.aload_n 0, 1) := by decide +kernel
theorem dX5_account_230 : decode cX5_account 230 = .ok (.iconst 1, 1) := by decide +kernel
theorem dX5_account_231 : decode cX5_account 231 = .ok (.invokevirtual 61, 3) := by decide +kernel
theorem dX5_account_234 : decode cX5_account 234 = .ok (.ireturn, 1) := by decide +kernel
theorem dX5_undo_0 : decode cX5_undo 0 = .ok (.aload_n 0, 1) := by decide +kernel
theorem dX5_undo_1 : decode cX5_undo 1 = .ok (.iconst 0, 1) := by decide +kernel
theorem dX5_undo_2 : decode cX5_undo 2 = .ok (.putfield 36, 3) := by decide +kernel
theorem dX5_undo_5 : decode cX5_undo 5 = .ok (.aload_n 0, 1) := by decide +kernel
theorem dX5_undo_6 : decode cX5_undo 6 = .ok (.getfield 42, 3) := by decide +kernel
theorem dX5_undo_9 : decode cX5_undo 9 = .ok (.ifCond .ne 9, 3) := by decide +kernel
theorem dX5_undo_12 : decode cX5_undo 12 = .ok (.aload_n 0, 1) := by decide +kernel
theorem dX5_undo_13 : decode cX5_undo 13 = .ok (.iconst 1, 1) := by decide +kernel
theorem dX5_undo_14 : decode cX5_undo 14 = .ok (.invokevirtual 61, 3) := by decide +kernel
theorem dX5_undo_17 : decode cX5_undo 17 = .ok (.ireturn, 1) := by decide +kernel
theorem dX5_undo_18 : decode cX5_undo 18 = .ok (.aload_n 0, 1) := by decide +kernel
theorem dX5_undo_19 : decode cX5_undo 19 = .ok (.dup, 1) := by decide +kernel
theorem dX5_undo_20 : decode cX5_undo 20 = .ok (.getfield 42, 3) := by decide +kernel
theorem dX5_undo_23 : decode cX5_undo 23 = .ok (.iconst 1, 1) := by decide +kernel
theorem dX5_undo_24 : decode cX5_undo 24 = .ok (.isub, 1) := by decide +kernel
theorem dX5_undo_25 : decode cX5_undo 25 = .ok (.putfield 42, 3) := by decide +kernel
theorem dX5_undo_28 : decode cX5_undo 28 = .ok (.iconst 0, 1) := by decide +kernel
theorem dX5_undo_29 : decode cX5_undo 29 = .ok (.istore_n 1, 1) := by decide +kernel
theorem dX5_undo_30 : decode cX5_undo 30 = .ok (.iload_n 1, 1) := by decide +kernel
theorem dX5_undo_31 : decode cX5_undo 31 = .ok (.bipush 64, 2) := by decide +kernel
theorem dX5_undo_33 : decode cX5_undo 33 = .ok (.if_icmp .ge 29, 3) := by decide +kernel
theorem dX5_undo_36 : decode cX5_undo 36 = .ok (.aload_n 0, 1) := by decide +kernel
theorem dX5_undo_37 : decode cX5_undo 37 = .ok (.getfield 9, 3) := by decide +kernel
theorem dX5_undo_40 : decode cX5_undo 40 = .ok (.iload_n 1, 1) := by decide +kernel
theorem dX5_undo_41 : decode cX5_undo 41 = .ok (.aload_n 0, 1) := by decide +kernel
theorem dX5_undo_42 : decode cX5_undo 42 = .ok (.getfield 16, 3) := by decide +kernel
theorem dX5_undo_45 : decode cX5_undo 45 = .ok (.bipush 64, 2) := by decide +kernel
theorem dX5_undo_47 : decode cX5_undo 47 = .ok (.aload_n 0, 1) := by decide +kernel
theorem dX5_undo_48 : decode cX5_undo 48 = .ok (.getfield 42, 3) := by decide +kernel
theorem dX5_undo_51 : decode cX5_undo 51 = .ok (.imul, 1) := by decide +kernel
theorem dX5_undo_52 : decode cX5_undo 52 = .ok (.iload_n 1, 1) := by decide +kernel
theorem dX5_undo_53 : decode cX5_undo 53 = .ok (.iadd, 1) := by decide +kernel
theorem dX5_undo_54 : decode cX5_undo 54 = .ok (.iaload, 1) := by decide +kernel
theorem dX5_undo_55 : decode cX5_undo 55 = .ok (.iastore, 1) := by decide +kernel
theorem dX5_undo_56 : decode cX5_undo 56 = .ok (.iinc 1 1, 3) := by decide +kernel
theorem dX5_undo_59 : decode cX5_undo 59 = .ok (.goto (-29), 3) := by decide +kernel
theorem dX5_undo_62 : decode cX5_undo 62 = .ok (.aload_n 0, 1) := by decide +kernel
theorem dX5_undo_63 : decode cX5_undo 63 = .ok (.getfield 42, 3) := by decide +kernel
theorem dX5_undo_66 : decode cX5_undo 66 = .ok (.ireturn, 1) := by decide +kernel
theorem dX5_save_0 : decode cX5_save 0 = .ok (.aload_n 0, 1) := by decide +kernel
theorem dX5_save_1 : decode cX5_save 1 = .ok (.iconst 0, 1) := by decide +kernel
theorem dX5_save_2 : decode cX5_save 2 = .ok (.putfield 36, 3) := by decide +kernel
theorem dX5_save_5 : decode cX5_save 5 = .ok (.aload_n 0, 1) := by decide +kernel
theorem dX5_save_6 : decode cX5_save 6 = .ok (.iconst 1, 1) := by decide +kernel
theorem dX5_save_7 : decode cX5_save 7 = .ok (.putfield 230, 3) := by decide +kernel
theorem dX5_save_10 : decode cX5_save 10 = .ok (.iconst 0, 1) := by decide +kernel
theorem dX5_save_11 : decode cX5_save 11 = .ok (.istore_n 1, 1) := by decide +kernel
theorem dX5_save_12 : decode cX5_save 12 = .ok (.iload_n 1, 1) := by decide +kernel
theorem dX5_save_13 : decode cX5_save 13 = .ok (.bipush 64, 2) := by decide +kernel
theorem dX5_save_15 : decode cX5_save 15 = .ok (.if_icmp .ge 21, 3) := by decide +kernel
theorem dX5_save_18 : decode cX5_save 18 = .ok (.aload_n 0, 1) := by decide +kernel
theorem dX5_save_19 : decode cX5_save 19 = .ok (.getfield 19, 3) := by decide +kernel
theorem dX5_save_22 : decode cX5_save 22 = .ok (.iload_n 1, 1) := by decide +kernel
theorem dX5_save_23 : decode cX5_save 23 = .ok (.aload_n 0, 1) := by decide +kernel
theorem dX5_save_24 : decode cX5_save 24 = .ok (.getfield 9, 3) := by decide +kernel
theorem dX5_save_27 : decode cX5_save 27 = .ok (.iload_n 1, 1) := by decide +kernel
theorem dX5_save_28 : decode cX5_save 28 = .ok (.iaload, 1) := by decide +kernel
theorem dX5_save_29 : decode cX5_save 29 = .ok (.iastore, 1) := by decide +kernel
theorem dX5_save_30 : decode cX5_save 30 = .ok (.iinc 1 1, 3) := by decide +kernel
theorem dX5_save_33 : decode cX5_save 33 = .ok (.goto (-21), 3) := by decide +kernel
theorem dX5_save_36 : decode cX5_save 36 = .ok (.aload_n 0, 1) := by decide +kernel
theorem dX5_save_37 : decode cX5_save 37 = .ok (.getfield 9, 3) := by decide +kernel
theorem dX5_save_40 : decode cX5_save 40 = .ok (.iconst 0, 1) := by decide +kernel
theorem dX5_save_41 : decode cX5_save 41 = .ok (.iaload, 1) := by decide +kernel
theorem dX5_save_42 : decode cX5_save 42 = .ok (.ireturn, 1) := by decide +kernel
theorem dX5_restore_0 : decode cX5_restore 0 = .ok (.aload_n 0, 1) := by decide +kernel
theorem dX5_restore_1 : decode cX5_restore 1 = .ok (.iconst 0, 1) := by decide +kernel
theorem dX5_restore_2 : decode cX5_restore 2 = .ok (.putfield 36, 3) := by decide +kernel
theorem dX5_restore_5 : decode cX5_restore 5 = .ok (.aload_n 0, 1) := by decide +kernel
theorem dX5_restore_6 : decode cX5_restore 6 = .ok (.getfield 230, 3) := by decide +kernel
theorem dX5_restore_9 : decode cX5_restore 9 = .ok (.ifCond .ne 9, 3) := by decide +kernel
theorem dX5_restore_12 : decode cX5_restore 12 = .ok (.aload_n 0, 1) := by decide +kernel
theorem dX5_restore_13 : decode cX5_restore 13 = .ok (.iconst 1, 1) := by decide +kernel
theorem dX5_restore_14 : decode cX5_restore 14 = .ok (.invokevirtual 61, 3) := by decide +kernel
theorem dX5_restore_17 : decode cX5_restore 17 = .ok (.ireturn, 1) := by decide +kernel
theorem dX5_restore_18 : decode cX5_restore 18 = .ok (.iconst 0, 1) := by decide +kernel
theorem dX5_restore_19 : decode cX5_restore 19 = .ok (.istore_n 1, 1) := by decide +kernel
theorem dX5_restore_20 : decode cX5_restore 20 = .ok (.iload_n 1, 1) := by decide +kernel
theorem dX5_restore_21 : decode cX5_restore 21 = .ok (.bipush 64, 2) := by decide +kernel
theorem dX5_restore_23 : decode cX5_restore 23 = .ok (.if_icmp .ge 21, 3) := by decide +kernel
theorem dX5_restore_26 : decode cX5_restore 26 = .ok (.aload_n 0, 1) := by decide +kernel
theorem dX5_restore_27 : decode cX5_restore 27 = .ok (.getfield 9, 3) := by decide +kernel
theorem dX5_restore_30 : decode cX5_restore 30 = .ok (.iload_n 1, 1) := by decide +kernel
theorem dX5_restore_31 : decode cX5_restore 31 = .ok (.aload_n 0, 1) := by decide +kernel
theorem dX5_restore_32 : decode cX5_restore 32 = .ok (.getfield 19, 3) := by decide +kernel
theorem dX5_restore_35 : decode cX5_restore 35 = .ok (.iload_n 1, 1) := by decide +kernel
theorem dX5_restore_36 : decode cX5_restore 36 = .ok (.iaload, 1) := by decide +kernel
theorem dX5_restore_37 : decode cX5_restore 37 = .ok (.iastore, 1) := by decide +kernel
theorem dX5_restore_38 : decode cX5_restore 38 = .ok (.iinc 1 1, 3) := by decide +kernel
theorem dX5_restore_41 : decode cX5_restore 41 = .ok (.goto (-21), 3) := by decide +kernel
theorem dX5_restore_44 : decode cX5_restore 44 = .ok (.aload_n 0, 1) := by decide +kernel
theorem dX5_restore_45 : decode cX5_restore 45 = .ok (.iconst 0, 1) := by decide +kernel
theorem dX5_restore_46 : decode cX5_restore 46 = .ok (.putfield 42, 3) := by decide +kernel
theorem dX5_restore_49 : decode cX5_restore 49 = .ok (.aload_n 0, 1) := by decide +kernel
theorem dX5_restore_50 : decode cX5_restore 50 = .ok (.getfield 9, 3) := by decide +kernel
theorem dX5_restore_53 : decode cX5_restore 53 = .ok (.iconst 0, 1) := by decide +kernel
theorem dX5_restore_54 : decode cX5_restore 54 = .ok (.iaload, 1) := by decide +kernel
theorem dX5_restore_55 : decode cX5_restore 55 = .ok (.ireturn, 1) := by decide +kernel
