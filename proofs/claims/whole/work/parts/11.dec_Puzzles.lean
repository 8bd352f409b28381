theorem d_Puzzles_init_0 : decode b_Puzzles_init 0 = .ok (.aload_n 0, 1) := by decide +kernel
theorem d_Puzzles_init_1 : decode b_Puzzles_init 1 = .ok (.invokespecial 5, 3) := by decide +kernel
theorem d_Puzzles_init_4 : decode b_Puzzles_init 4 = .ok (.aload_n 0, 1) := by decide +kernel
theorem d_Puzzles_init_5 : decode b_Puzzles_init 5 = .ok (.bipush 20, 2) := by decide +kernel
theorem d_Puzzles_init_7 : decode b_Puzzles_init 7 = .ok (.newarray .int, 2) := by decide +kernel
theorem d_Puzzles_init_9 : decode b_Puzzles_init 9 = .ok (.putfield 11, 3) := by decide +kernel
theorem d_Puzzles_init_12 : decode b_Puzzles_init 12 = .ok (.aload_n 0, 1) := by decide +kernel
theorem d_Puzzles_init_13 : decode b_Puzzles_init 13 = .ok (.bipush 20, 2) := by decide +kernel
theorem d_Puzzles_init_15 : decode b_Puzzles_init 15 = .ok (.newarray .int, 2) := by decide +kernel
theorem d_Puzzles_init_17 : decode b_Puzzles_init 17 = .ok (.putfield 15, 3) := by decide +kernel
theorem d_Puzzles_init_20 : decode b_Puzzles_init 20 = .ok (.aload_n 0, 1) := by decide +kernel
theorem d_Puzzles_init_21 : decode b_Puzzles_init 21 = .ok (.sipush 1001, 3) := by decide +kernel
theorem d_Puzzles_init_24 : decode b_Puzzles_init 24 = .ok (.newarray .boolean, 2) := by decide +kernel
theorem d_Puzzles_init_26 : decode b_Puzzles_init 26 = .ok (.putfield 18, 3) := by decide +kernel
theorem d_Puzzles_init_29 : decode b_Puzzles_init 29 = .ok (.aload_n 0, 1) := by decide +kernel
theorem d_Puzzles_init_30 : decode b_Puzzles_init 30 = .ok (.bipush 6, 2) := by decide +kernel
theorem d_Puzzles_init_32 : decode b_Puzzles_init 32 = .ok (.newarray .int, 2) := by decide +kernel
theorem d_Puzzles_init_34 : decode b_Puzzles_init 34 = .ok (.putfield 22, 3) := by decide +kernel
theorem d_Puzzles_init_37 : decode b_Puzzles_init 37 = .ok (.aload_n 0, 1) := by decide +kernel
theorem d_Puzzles_init_38 : decode b_Puzzles_init 38 = .ok (.bipush 6, 2) := by decide +kernel
theorem d_Puzzles_init_40 : decode b_Puzzles_init 40 = .ok (.newarray .int, 2) := by decide +kernel
theorem d_Puzzles_init_42 : decode b_Puzzles_init 42 = .ok (.putfield 25, 3) := by decide +kernel
theorem d_Puzzles_init_45 : decode b_Puzzles_init 45 = .ok (.return_, 1) := by decide +kernel
theorem d_Puzzles_has_0 : decode b_Puzzles_has 0 = .ok (.iload_n 1, 1) := by decide +kernel
theorem d_Puzzles_has_1 : decode b_Puzzles_has 1 = .ok (.ifCond .lt 15, 3) := by decide +kernel
theorem d_Puzzles_has_4 : decode b_Puzzles_has 4 = .ok (.iload_n 1, 1) := by decide +kernel
theorem d_Puzzles_has_5 : decode b_Puzzles_has 5 = .ok (.aload_n 0, 1) := by decide +kernel
theorem d_Puzzles_has_6 : decode b_Puzzles_has 6 = .ok (.getfield 28, 3) := by decide +kernel
theorem d_Puzzles_has_9 : decode b_Puzzles_has 9 = .ok (.if_icmp .ge 7, 3) := by decide +kernel
theorem d_Puzzles_has_12 : decode b_Puzzles_has 12 = .ok (.iconst 1, 1) := by decide +kernel
theorem d_Puzzles_has_13 : decode b_Puzzles_has 13 = .ok (.goto 4, 3) := by decide +kernel
theorem d_Puzzles_has_16 : decode b_Puzzles_has 16 = .ok (.iconst 0, 1) := by decide +kernel
theorem d_Puzzles_has_17 : decode b_Puzzles_has 17 = .ok (.ireturn, 1) := by decide +kernel
theorem d_Puzzles_add_0 : decode b_Puzzles_add 0 = .ok (.iload_n 1, 1) := by decide +kernel
theorem d_Puzzles_add_1 : decode b_Puzzles_add 1 = .ok (.iconst 1, 1) := by decide +kernel
theorem d_Puzzles_add_2 : decode b_Puzzles_add 2 = .ok (.if_icmp .lt 18, 3) := by decide +kernel
theorem d_Puzzles_add_5 : decode b_Puzzles_add 5 = .ok (.iload_n 1, 1) := by decide +kernel
theorem d_Puzzles_add_6 : decode b_Puzzles_add 6 = .ok (.bipush 100, 2) := by decide +kernel
theorem d_Puzzles_add_8 : decode b_Puzzles_add 8 = .ok (.if_icmp .gt 12, 3) := by decide +kernel
theorem d_Puzzles_add_11 : decode b_Puzzles_add 11 = .ok (.aload_n 0, 1) := by decide +kernel
theorem d_Puzzles_add_12 : decode b_Puzzles_add 12 = .ok (.getfield 28, 3) := by decide +kernel
theorem d_Puzzles_add_15 : decode b_Puzzles_add 15 = .ok (.bipush 20, 2) := by decide +kernel
theorem d_Puzzles_add_17 : decode b_Puzzles_add 17 = .ok (.if_icmp .lt 5, 3) := by decide +kernel
theorem d_Puzzles_add_20 : decode b_Puzzles_add 20 = .ok (.iconst (-1), 1) := by decide +kernel
theorem d_Puzzles_add_21 : decode b_Puzzles_add 21 = .ok (.ireturn, 1) := by decide +kernel
theorem d_Puzzles_add_22 : decode b_Puzzles_add 22 = .ok (.aload_n 0, 1) := by decide +kernel
theorem d_Puzzles_add_23 : decode b_Puzzles_add 23 = .ok (.getfield 11, 3) := by decide +kernel
theorem d_Puzzles_add_26 : decode b_Puzzles_add 26 = .ok (.aload_n 0, 1) := by decide +kernel
theorem d_Puzzles_add_27 : decode b_Puzzles_add 27 = .ok (.getfield 28, 3) := by decide +kernel
theorem d_Puzzles_add_30 : decode b_Puzzles_add 30 = .ok (.iload_n 1, 1) := by decide +kernel
theorem d_Puzzles_add_31 : decode b_Puzzles_add 31 = .ok (.iastore, 1) := by decide +kernel
theorem d_Puzzles_add_32 : decode b_Puzzles_add 32 = .ok (.aload_n 0, 1) := by decide +kernel
theorem d_Puzzles_add_33 : decode b_Puzzles_add 33 = .ok (.aload_n 0, 1) := by decide +kernel
theorem d_Puzzles_add_34 : decode b_Puzzles_add 34 = .ok (.getfield 28, 3) := by decide +kernel
theorem d_Puzzles_add_37 : decode b_Puzzles_add 37 = .ok (.invokevirtual 32, 3) := by decide +kernel
theorem d_Puzzles_add_40 : decode b_Puzzles_add 40 = .ok (.aload_n 0, 1) := by decide +kernel
theorem d_Puzzles_add_41 : decode b_Puzzles_add 41 = .ok (.iload_n 1, 1) := by decide +kernel
theorem d_Puzzles_add_42 : decode b_Puzzles_add 42 = .ok (.invokevirtual 36, 3) := by decide +kernel
theorem d_Puzzles_add_45 : decode b_Puzzles_add 45 = .ok (.aload_n 0, 1) := by decide +kernel
theorem d_Puzzles_add_46 : decode b_Puzzles_add 46 = .ok (.dup, 1) := by decide +kernel
theorem d_Puzzles_add_47 : decode b_Puzzles_add 47 = .ok (.getfield 39, 3) := by decide +kernel
theorem d_Puzzles_add_50 : decode b_Puzzles_add 50 = .ok (.iload_n 1, 1) := by decide +kernel
theorem d_Puzzles_add_51 : decode b_Puzzles_add 51 = .ok (.iadd, 1) := by decide +kernel
theorem d_Puzzles_add_52 : decode b_Puzzles_add 52 = .ok (.putfield 39, 3) := by decide +kernel
theorem d_Puzzles_add_55 : decode b_Puzzles_add 55 = .ok (.aload_n 0, 1) := by decide +kernel
theorem d_Puzzles_add_56 : decode b_Puzzles_add 56 = .ok (.dup, 1) := by decide +kernel
theorem d_Puzzles_add_57 : decode b_Puzzles_add 57 = .ok (.getfield 28, 3) := by decide +kernel
theorem d_Puzzles_add_60 : decode b_Puzzles_add 60 = .ok (.iconst 1, 1) := by decide +kernel
theorem d_Puzzles_add_61 : decode b_Puzzles_add 61 = .ok (.iadd, 1) := by decide +kernel
theorem d_Puzzles_add_62 : decode b_Puzzles_add 62 = .ok (.putfield 28, 3) := by decide +kernel
theorem d_Puzzles_add_65 : decode b_Puzzles_add 65 = .ok (.aload_n 0, 1) := by decide +kernel
theorem d_Puzzles_add_66 : decode b_Puzzles_add 66 = .ok (.getfield 28, 3) := by decide +kernel
theorem d_Puzzles_add_69 : decode b_Puzzles_add 69 = .ok (.iconst 1, 1) := by decide +kernel
theorem d_Puzzles_add_70 : decode b_Puzzles_add 70 = .ok (.isub, 1) := by decide +kernel
theorem d_Puzzles_add_71 : decode b_Puzzles_add 71 = .ok (.ireturn, 1) := by decide +kernel
theorem d_Puzzles_putFalling_0 : decode b_Puzzles_putFalling 0 = .ok (.iload_n 1, 1) := by decide +kernel
theorem d_Puzzles_putFalling_1 : decode b_Puzzles_putFalling 1 = .ok (.istore_n 2, 1) := by decide +kernel
theorem d_Puzzles_putFalling_2 : decode b_Puzzles_putFalling 2 = .ok (.iload_n 2, 1) := by decide +kernel
theorem d_Puzzles_putFalling_3 : decode b_Puzzles_putFalling 3 = .ok (.ifCond .le 45, 3) := by decide +kernel
theorem d_Puzzles_putFalling_6 : decode b_Puzzles_putFalling 6 = .ok (.aload_n 0, 1) := by decide +kernel
theorem d_Puzzles_putFalling_7 : decode b_Puzzles_putFalling 7 = .ok (.getfield 11, 3) := by decide +kernel
theorem d_Puzzles_putFalling_10 : decode b_Puzzles_putFalling 10 = .ok (.aload_n 0, 1) := by decide +kernel
theorem d_Puzzles_putFalling_11 : decode b_Puzzles_putFalling 11 = .ok (.getfield 15, 3) := by decide +kernel
theorem d_Puzzles_putFalling_14 : decode b_Puzzles_putFalling 14 = .ok (.iload_n 2, 1) := by decide +kernel
theorem d_Puzzles_putFalling_15 : decode b_Puzzles_putFalling 15 = .ok (.iconst 1, 1) := by decide +kernel
theorem d_Puzzles_putFalling_16 : decode b_Puzzles_putFalling 16 = .ok (.isub, 1) := by decide +kernel
theorem d_Puzzles_putFalling_17 : decode b_Puzzles_putFalling 17 = .ok (.iaload, 1) := by decide +kernel
theorem d_Puzzles_putFalling_18 : decode b_Puzzles_putFalling 18 = .ok (.iaload, 1) := by decide +kernel
theorem d_Puzzles_putFalling_19 : decode b_Puzzles_putFalling 19 = .ok (.aload_n 0, 1) := by decide +kernel
theorem d_Puzzles_putFalling_20 : decode b_Puzzles_putFalling 20 = .ok (.getfield 11, 3) := by decide +kernel
theorem d_Puzzles_putFalling_23 : decode b_Puzzles_putFalling 23 = .ok (.iload_n 1, 1) := by decide +kernel
theorem d_Puzzles_putFalling_24 : decode b_Puzzles_putFalling 24 = .ok (.iaload, 1) := by decide +kernel
theorem d_Puzzles_putFalling_25 : decode b_Puzzles_putFalling 25 = .ok (.if_icmp .ge 23, 3) := by decide +kernel
theorem d_Puzzles_putFalling_28 : decode b_Puzzles_putFalling 28 = .ok (.aload_n 0, 1) := by decide +kernel
theorem d_Puzzles_putFalling_29 : decode b_Puzzles_putFalling 29 = .ok (.getfield 15, 3) := by decide +kernel
theorem d_Puzzles_putFalling_32 : decode b_Puzzles_putFalling 32 = .ok (.iload_n 2, 1) := by decide +kernel
theorem d_Puzzles_putFalling_33 : decode b_Puzzles_putFalling 33 = .ok (.aload_n 0, 1) := by decide +kernel
theorem d_Puzzles_putFalling_34 : decode b_Puzzles_putFalling 34 = .ok (.getfield 15, 3) := by decide +kernel
theorem d_Puzzles_putFalling_37 : decode b_Puzzles_putFalling 37 = .ok (.iload_n 2, 1) := by decide +kernel
theorem d_Puzzles_putFalling_38 : decode b_Puzzles_putFalling 38 = .ok (.iconst 1, 1) := by decide +kernel
theorem d_Puzzles_putFalling_39 : decode b_Puzzles_putFalling 39 = .ok (.isub, 1) := by decide +kernel
theorem d_Puzzles_putFalling_40 : decode b_Puzzles_putFalling 40 = .ok (.iaload, 1) := by decide +kernel
theorem d_Puzzles_putFalling_41 : decode b_Puzzles_putFalling 41 = .ok (.iastore, 1) := by decide +kernel
theorem d_Puzzles_putFalling_42 : decode b_Puzzles_putFalling 42 = .ok (.iinc 2 (-1), 3) := by decide +kernel
theorem d_Puzzles_putFalling_45 : decode b_Puzzles_putFalling 45 = .ok (.goto (-43), 3) := by decide +kernel
theorem d_Puzzles_putFalling_48 : decode b_Puzzles_putFalling 48 = .ok (.aload_n 0, 1) := by decide +kernel
theorem d_Puzzles_putFalling_49 : decode b_Puzzles_putFalling 49 = .ok (.getfield 15, 3) := by decide +kernel
theorem d_Puzzles_putFalling_52 : decode b_Puzzles_putFalling 52 = .ok (.iload_n 2, 1) := by decide +kernel
theorem d_Puzzles_putFalling_53 : decode b_Puzzles_putFalling 53 = .ok (.iload_n 1, 1) := by decide +kernel
theorem d_Puzzles_putFalling_54 : decode b_Puzzles_putFalling 54 = .ok (.iastore, 1) := by decide +kernel
theorem d_Puzzles_putFalling_55 : decode b_Puzzles_putFalling 55 = .ok (.return_, 1) := by decide +kernel
theorem d_Puzzles_reachWith_0 : decode b_Puzzles_reachWith 0 = .ok (.aload_n 0, 1) := by decide +kernel
theorem d_Puzzles_reachWith_1 : decode b_Puzzles_reachWith 1 = .ok (.getfield 18, 3) := by decide +kernel
theorem d_Puzzles_reachWith_4 : decode b_Puzzles_reachWith 4 = .ok (.iconst 0, 1) := by decide +kernel
theorem d_Puzzles_reachWith_5 : decode b_Puzzles_reachWith 5 = .ok (.iconst 1, 1) := by decide +kernel
theorem d_Puzzles_reachWith_6 : decode b_Puzzles_reachWith 6 = .ok (.bastore, 1) := by decide +kernel
theorem d_Puzzles_reachWith_7 : decode b_Puzzles_reachWith 7 = .ok (.sipush 1000, 3) := by decide +kernel
theorem d_Puzzles_reachWith_10 : decode b_Puzzles_reachWith 10 = .ok (.istore_n 2, 1) := by decide +kernel
theorem d_Puzzles_reachWith_11 : decode b_Puzzles_reachWith 11 = .ok (.iload_n 2, 1) := by decide +kernel
theorem d_Puzzles_reachWith_12 : decode b_Puzzles_reachWith 12 = .ok (.iload_n 1, 1) := by decide +kernel
theorem d_Puzzles_reachWith_13 : decode b_Puzzles_reachWith 13 = .ok (.if_icmp .lt 27, 3) := by decide +kernel
theorem d_Puzzles_reachWith_16 : decode b_Puzzles_reachWith 16 = .ok (.aload_n 0, 1) := by decide +kernel
theorem d_Puzzles_reachWith_17 : decode b_Puzzles_reachWith 17 = .ok (.getfield 18, 3) := by decide +kernel
theorem d_Puzzles_reachWith_20 : decode b_Puzzles_reachWith 20 = .ok (.iload_n 2, 1) := by decide +kernel
theorem d_Puzzles_reachWith_21 : decode b_Puzzles_reachWith 21 = .ok (.iload_n 1, 1) := by decide +kernel
theorem d_Puzzles_reachWith_22 : decode b_Puzzles_reachWith 22 = .ok (.isub, 1) := by decide +kernel
theorem d_Puzzles_reachWith_23 : decode b_Puzzles_reachWith 23 = .ok (.baload, 1) := by decide +kernel
theorem d_Puzzles_reachWith_24 : decode b_Puzzles_reachWith 24 = .ok (.ifCond .eq 10, 3) := by decide +kernel
theorem d_Puzzles_reachWith_27 : decode b_Puzzles_reachWith 27 = .ok (.aload_n 0, 1) := by decide +kernel
theorem d_Puzzles_reachWith_28 : decode b_Puzzles_reachWith 28 = .ok (.getfield 18, 3) := by decide +kernel
theorem d_Puzzles_reachWith_31 : decode b_Puzzles_reachWith 31 = .ok (.iload_n 2, 1) := by decide +kernel
theorem d_Puzzles_reachWith_32 : decode b_Puzzles_reachWith 32 = .ok (.iconst 1, 1) := by decide +kernel
theorem d_Puzzles_reachWith_33 : decode b_Puzzles_reachWith 33 = .ok (.bastore, 1) := by decide +kernel
theorem d_Puzzles_reachWith_34 : decode b_Puzzles_reachWith 34 = .ok (.iinc 2 (-1), 3) := by decide +kernel
theorem d_Puzzles_reachWith_37 : decode b_Puzzles_reachWith 37 = .ok (.goto (-26), 3) := by decide +kernel
theorem d_Puzzles_reachWith_40 : decode b_Puzzles_reachWith 40 = .ok (.return_, 1) := by decide +kernel
theorem d_Puzzles_leastDifference_0 : decode b_Puzzles_leastDifference 0 = .ok (.aload_n 0, 1) := by decide +kernel
theorem d_Puzzles_leastDifference_1 : decode b_Puzzles_leastDifference 1 = .ok (.getfield 28, 3) := by decide +kernel
theorem d_Puzzles_leastDifference_4 : decode b_Puzzles_leastDifference 4 = .ok (.ifCond .ne 5, 3) := by decide +kernel
theorem d_Puzzles_leastDifference_7 : decode b_Puzzles_leastDifference 7 = .ok (.iconst (-1), 1) := by decide +kernel
theorem d_Puzzles_leastDifference_8 : decode b_Puzzles_leastDifference 8 = .ok (.ireturn, 1) := by decide +kernel
theorem d_Puzzles_leastDifference_9 : decode b_Puzzles_leastDifference 9 = .ok (.aload_n 0, 1) := by decide +kernel
theorem d_Puzzles_leastDifference_10 : decode b_Puzzles_leastDifference 10 = .ok (.getfield 39, 3) := by decide +kernel
theorem d_Puzzles_leastDifference_13 : decode b_Puzzles_leastDifference 13 = .ok (.iconst 2, 1) := by decide +kernel
theorem d_Puzzles_leastDifference_14 : decode b_Puzzles_leastDifference 14 = .ok (.idiv, 1) := by decide +kernel
theorem d_Puzzles_leastDifference_15 : decode b_Puzzles_leastDifference 15 = .ok (.istore_n 1, 1) := by decide +kernel
theorem d_Puzzles_leastDifference_16 : decode b_Puzzles_leastDifference 16 = .ok (.iload_n 1, 1) := by decide +kernel
theorem d_Puzzles_leastDifference_17 : decode b_Puzzles_leastDifference 17 = .ok (.ifCond .le 18, 3) := by decide +kernel
theorem d_Puzzles_leastDifference_20 : decode b_Puzzles_leastDifference 20 = .ok (.aload_n 0, 1) := by decide +kernel
theorem d_Puzzles_leastDifference_21 : decode b_Puzzles_leastDifference 21 = .ok (.getfield 18, 3) := by decide +kernel
theorem d_Puzzles_leastDifference_24 : decode b_Puzzles_leastDifference 24 = .ok (.iload_n 1, 1) := by decide +kernel
theorem d_Puzzles_leastDifference_25 : decode b_Puzzles_leastDifference 25 = .ok (.baload, 1) := by decide +kernel
theorem d_Puzzles_leastDifference_26 : decode b_Puzzles_leastDifference 26 = .ok (.ifCond .ne 9, 3) := by decide +kernel
theorem d_Puzzles_leastDifference_29 : decode b_Puzzles_leastDifference 29 = .ok (.iinc 1 (-1), 3) := by decide +kernel
theorem d_Puzzles_leastDifference_32 : decode b_Puzzles_leastDifference 32 = .ok (.goto (-16), 3) := by decide +kernel
theorem d_Puzzles_leastDifference_35 : decode b_Puzzles_leastDifference 35 = .ok (.aload_n 0, 1) := by decide +kernel
theorem d_Puzzles_leastDifference_36 : decode b_Puzzles_leastDifference 36 = .ok (.getfield 39, 3) := by decide +kernel
theorem d_Puzzles_leastDifference_39 : decode b_Puzzles_leastDifference 39 = .ok (.iconst 2, 1) := by decide +kernel
theorem d_Puzzles_leastDifference_40 : decode b_Puzzles_leastDifference 40 = .ok (.iload_n 1, 1) := by decide +kernel
theorem d_Puzzles_leastDifference_41 : decode b_Puzzles_leastDifference 41 = .ok (.imul, 1) := by decide +kernel
theorem d_Puzzles_leastDifference_42 : decode b_Puzzles_leastDifference 42 = .ok (.isub, 1) := by decide +kernel
theorem d_Puzzles_leastDifference_43 : decode b_Puzzles_leastDifference 43 = .ok (.ireturn, 1) := by decide +kernel
theorem d_Puzzles_setOf_0 : decode b_Puzzles_setOf 0 = .ok (.iconst 0, 1) := by decide +kernel
theorem d_Puzzles_setOf_1 : decode b_Puzzles_setOf 1 = .ok (.istore_n 3, 1) := by decide +kernel
theorem d_Puzzles_setOf_2 : decode b_Puzzles_setOf 2 = .ok (.iload_n 3, 1) := by decide +kernel
theorem d_Puzzles_setOf_3 : decode b_Puzzles_setOf 3 = .ok (.bipush 6, 2) := by decide +kernel
theorem d_Puzzles_setOf_5 : decode b_Puzzles_setOf 5 = .ok (.if_icmp .ge 23, 3) := by decide +kernel
theorem d_Puzzles_setOf_8 : decode b_Puzzles_setOf 8 = .ok (.aload_n 0, 1) := by decide +kernel
theorem d_Puzzles_setOf_9 : decode b_Puzzles_setOf 9 = .ok (.getfield 22, 3) := by decide +kernel
theorem d_Puzzles_setOf_12 : decode b_Puzzles_setOf 12 = .ok (.iload_n 3, 1) := by decide +kernel
theorem d_Puzzles_setOf_13 : decode b_Puzzles_setOf 13 = .ok (.iconst 0, 1) := by decide +kernel
theorem d_Puzzles_setOf_14 : decode b_Puzzles_setOf 14 = .ok (.iastore, 1) := by decide +kernel
theorem d_Puzzles_setOf_15 : decode b_Puzzles_setOf 15 = .ok (.aload_n 0, 1) := by decide +kernel
theorem d_Puzzles_setOf_16 : decode b_Puzzles_setOf 16 = .ok (.getfield 25, 3) := by decide +kernel
theorem d_Puzzles_setOf_19 : decode b_Puzzles_setOf 19 = .ok (.iload_n 3, 1) := by decide +kernel
theorem d_Puzzles_setOf_20 : decode b_Puzzles_setOf 20 = .ok (.iconst 0, 1) := by decide +kernel
theorem d_Puzzles_setOf_21 : decode b_Puzzles_setOf 21 = .ok (.iastore, 1) := by decide +kernel
theorem d_Puzzles_setOf_22 : decode b_Puzzles_setOf 22 = .ok (.iinc 3 1, 3) := by decide +kernel
theorem d_Puzzles_setOf_25 : decode b_Puzzles_setOf 25 = .ok (.goto (-23), 3) := by decide +kernel
theorem d_Puzzles_setOf_28 : decode b_Puzzles_setOf 28 = .ok (.iconst 0, 1) := by decide +kernel
theorem d_Puzzles_setOf_29 : decode b_Puzzles_setOf 29 = .ok (.istore_n 3, 1) := by decide +kernel
theorem d_Puzzles_setOf_30 : decode b_Puzzles_setOf 30 = .ok (.iload_n 3, 1) := by decide +kernel
theorem d_Puzzles_setOf_31 : decode b_Puzzles_setOf 31 = .ok (.aload_n 0, 1) := by decide +kernel
theorem d_Puzzles_setOf_32 : decode b_Puzzles_setOf 32 = .ok (.getfield 28, 3) := by decide +kernel
theorem d_Puzzles_setOf_35 : decode b_Puzzles_setOf 35 = .ok (.if_icmp .ge 61, 3) := by decide +kernel
theorem d_Puzzles_setOf_38 : decode b_Puzzles_setOf 38 = .ok (.aload_n 0, 1) := by decide +kernel
theorem d_Puzzles_setOf_39 : decode b_Puzzles_setOf 39 = .ok (.getfield 15, 3) := by decide +kernel
theorem d_Puzzles_setOf_42 : decode b_Puzzles_setOf 42 = .ok (.iload_n 3, 1) := by decide +kernel
theorem d_Puzzles_setOf_43 : decode b_Puzzles_setOf 43 = .ok (.iaload, 1) := by decide +kernel
theorem d_Puzzles_setOf_44 : decode b_Puzzles_setOf 44 = .ok (.istore 4, 2) := by decide +kernel
theorem d_Puzzles_setOf_46 : decode b_Puzzles_setOf 46 = .ok (.aload_n 0, 1) := by decide +kernel
theorem d_Puzzles_setOf_47 : decode b_Puzzles_setOf 47 = .ok (.iload_n 2, 1) := by decide +kernel
theorem d_Puzzles_setOf_48 : decode b_Puzzles_setOf 48 = .ok (.invokevirtual 42, 3) := by decide +kernel
theorem d_Puzzles_setOf_51 : decode b_Puzzles_setOf 51 = .ok (.istore 5, 2) := by decide +kernel
theorem d_Puzzles_setOf_53 : decode b_Puzzles_setOf 53 = .ok (.iload 4, 2) := by decide +kernel
theorem d_Puzzles_setOf_55 : decode b_Puzzles_setOf 55 = .ok (.iload_n 1, 1) := by decide +kernel
theorem d_Puzzles_setOf_56 : decode b_Puzzles_setOf 56 = .ok (.if_icmp .ne 6, 3) := by decide +kernel
theorem d_Puzzles_setOf_59 : decode b_Puzzles_setOf 59 = .ok (.iload 5, 2) := by decide +kernel
theorem d_Puzzles_setOf_61 : decode b_Puzzles_setOf 61 = .ok (.ireturn, 1) := by decide +kernel
theorem d_Puzzles_setOf_62 : decode b_Puzzles_setOf 62 = .ok (.aload_n 0, 1) := by decide +kernel
theorem d_Puzzles_setOf_63 : decode b_Puzzles_setOf 63 = .ok (.getfield 22, 3) := by decide +kernel
theorem d_Puzzles_setOf_66 : decode b_Puzzles_setOf 66 = .ok (.iload 5, 2) := by decide +kernel
theorem d_Puzzles_setOf_68 : decode b_Puzzles_setOf 68 = .ok (.dup2, 1) := by decide +kernel
theorem d_Puzzles_setOf_69 : decode b_Puzzles_setOf 69 = .ok (.iaload, 1) := by decide +kernel
theorem d_Puzzles_setOf_70 : decode b_Puzzles_setOf 70 = .ok (.aload_n 0, 1) := by decide +kernel
theorem d_Puzzles_setOf_71 : decode b_Puzzles_setOf 71 = .ok (.getfield 11, 3) := by decide +kernel
theorem d_Puzzles_setOf_74 : decode b_Puzzles_setOf 74 = .ok (.iload 4, 2) := by decide +kernel
theorem d_Puzzles_setOf_76 : decode b_Puzzles_setOf 76 = .ok (.iaload, 1) := by decide +kernel
theorem d_Puzzles_setOf_77 : decode b_Puzzles_setOf 77 = .ok (.iadd, 1) := by decide +kernel
theorem d_Puzzles_setOf_78 : decode b_Puzzles_setOf 78 = .ok (.iastore, 1) := by decide +kernel
theorem d_Puzzles_setOf_79 : decode b_Puzzles_setOf 79 = .ok (.aload_n 0, 1) := by decide +kernel
theorem d_Puzzles_setOf_80 : decode b_Puzzles_setOf 80 = .ok (.getfield 25, 3) := by decide +kernel
theorem d_Puzzles_setOf_83 : decode b_Puzzles_setOf 83 = .ok (.iload 5, 2) := by decide +kernel
theorem d_Puzzles_setOf_85 : decode b_Puzzles_setOf 85 = .ok (.dup2, 1) := by decide +kernel
theorem d_Puzzles_setOf_86 : decode b_Puzzles_setOf 86 = .ok (.iaload, 1) := by decide +kernel
theorem d_Puzzles_setOf_87 : decode b_Puzzles_setOf 87 = .ok (.iconst 1, 1) := by decide +kernel
theorem d_Puzzles_setOf_88 : decode b_Puzzles_setOf 88 = .ok (.iadd, 1) := by decide +kernel
theorem d_Puzzles_setOf_89 : decode b_Puzzles_setOf 89 = .ok (.iastore, 1) := by decide +kernel
theorem d_Puzzles_setOf_90 : decode b_Puzzles_setOf 90 = .ok (.iinc 3 1, 3) := by decide +kernel
theorem d_Puzzles_setOf_93 : decode b_Puzzles_setOf 93 = .ok (.goto (-63), 3) := by decide +kernel
theorem d_Puzzles_setOf_96 : decode b_Puzzles_setOf 96 = .ok (.iconst (-1), 1) := by decide +kernel
theorem d_Puzzles_setOf_97 : decode b_Puzzles_setOf 97 = .ok (.ireturn, 1) := by decide +kernel
theorem d_Puzzles_leastSet_0 : decode b_Puzzles_leastSet 0 = .ok (.iconst 0, 1) := by decide +kernel
theorem d_Puzzles_leastSet_1 : decode b_Puzzles_leastSet 1 = .ok (.istore_n 2, 1) := by decide +kernel
theorem d_Puzzles_leastSet_2 : decode b_Puzzles_leastSet 2 = .ok (.iconst 1, 1) := by decide +kernel
theorem d_Puzzles_leastSet_3 : decode b_Puzzles_leastSet 3 = .ok (.istore_n 3, 1) := by decide +kernel
theorem d_Puzzles_leastSet_4 : decode b_Puzzles_leastSet 4 = .ok (.iload_n 3, 1) := by decide +kernel
theorem d_Puzzles_leastSet_5 : decode b_Puzzles_leastSet 5 = .ok (.iload_n 1, 1) := by decide +kernel
theorem d_Puzzles_leastSet_6 : decode b_Puzzles_leastSet 6 = .ok (.if_icmp .ge 80, 3) := by decide +kernel
theorem d_Puzzles_leastSet_9 : decode b_Puzzles_leastSet 9 = .ok (.aload_n 0, 1) := by decide +kernel
theorem d_Puzzles_leastSet_10 : decode b_Puzzles_leastSet 10 = .ok (.getfield 22, 3) := by decide +kernel
theorem d_Puzzles_leastSet_13 : decode b_Puzzles_leastSet 13 = .ok (.iload_n 3, 1) := by decide +kernel
theorem d_Puzzles_leastSet_14 : decode b_Puzzles_leastSet 14 = .ok (.iaload, 1) := by decide +kernel
theorem d_Puzzles_leastSet_15 : decode b_Puzzles_leastSet 15 = .ok (.aload_n 0, 1) := by decide +kernel
theorem d_Puzzles_leastSet_16 : decode b_Puzzles_leastSet 16 = .ok (.getfield 22, 3) := by decide +kernel
theorem d_Puzzles_leastSet_19 : decode b_Puzzles_leastSet 19 = .ok (.iload_n 2, 1) := by decide +kernel
theorem d_Puzzles_leastSet_20 : decode b_Puzzles_leastSet 20 = .ok (.iaload, 1) := by decide +kernel
theorem d_Puzzles_leastSet_21 : decode b_Puzzles_leastSet 21 = .ok (.if_icmp .ge 7, 3) := by decide +kernel
theorem d_Puzzles_leastSet_24 : decode b_Puzzles_leastSet 24 = .ok (.iconst 1, 1) := by decide +kernel
theorem d_Puzzles_leastSet_25 : decode b_Puzzles_leastSet 25 = .ok (.goto 4, 3) := by decide +kernel
theorem d_Puzzles_leastSet_28 : decode b_Puzzles_leastSet 28 = .ok (.iconst 0, 1) := by decide +kernel
theorem d_Puzzles_leastSet_29 : decode b_Puzzles_leastSet 29 = .ok (.istore 4, 2) := by decide +kernel
theorem d_Puzzles_leastSet_31 : decode b_Puzzles_leastSet 31 = .ok (.aload_n 0, 1) := by decide +kernel
theorem d_Puzzles_leastSet_32 : decode b_Puzzles_leastSet 32 = .ok (.getfield 22, 3) := by decide +kernel
theorem d_Puzzles_leastSet_35 : decode b_Puzzles_leastSet 35 = .ok (.iload_n 3, 1) := by decide +kernel
theorem d_Puzzles_leastSet_36 : decode b_Puzzles_leastSet 36 = .ok (.iaload, 1) := by decide +kernel
theorem d_Puzzles_leastSet_37 : decode b_Puzzles_leastSet 37 = .ok (.aload_n 0, 1) := by decide +kernel
theorem d_Puzzles_leastSet_38 : decode b_Puzzles_leastSet 38 = .ok (.getfield 22, 3) := by decide +kernel
theorem d_Puzzles_leastSet_41 : decode b_Puzzles_leastSet 41 = .ok (.iload_n 2, 1) := by decide +kernel
theorem d_Puzzles_leastSet_42 : decode b_Puzzles_leastSet 42 = .ok (.iaload, 1) := by decide +kernel
theorem d_Puzzles_leastSet_43 : decode b_Puzzles_leastSet 43 = .ok (.if_icmp .ne 7, 3) := by decide +kernel
theorem d_Puzzles_leastSet_46 : decode b_Puzzles_leastSet 46 = .ok (.iconst 1, 1) := by decide +kernel
theorem d_Puzzles_leastSet_47 : decode b_Puzzles_leastSet 47 = .ok (.goto 4, 3) := by decide +kernel
theorem d_Puzzles_leastSet_50 : decode b_Puzzles_leastSet 50 = .ok (.iconst 0, 1) := by decide +kernel
theorem d_Puzzles_leastSet_51 : decode b_Puzzles_leastSet 51 = .ok (.istore 5, 2) := by decide +kernel
theorem d_Puzzles_leastSet_53 : decode b_Puzzles_leastSet 53 = .ok (.iload 4, 2) := by decide +kernel
theorem d_Puzzles_leastSet_55 : decode b_Puzzles_leastSet 55 = .ok (.ifCond .ne 23, 3) := by decide +kernel
theorem d_Puzzles_leastSet_58 : decode b_Puzzles_leastSet 58 = .ok (.iload 5, 2) := by decide +kernel
theorem d_Puzzles_leastSet_60 : decode b_Puzzles_leastSet 60 = .ok (.ifCond .eq 20, 3) := by decide +kernel
theorem d_Puzzles_leastSet_63 : decode b_Puzzles_leastSet 63 = .ok (.aload_n 0, 1) := by decide +kernel
theorem d_Puzzles_leastSet_64 : decode b_Puzzles_leastSet 64 = .ok (.getfield 25, 3) := by decide +kernel
theorem d_Puzzles_leastSet_67 : decode b_Puzzles_leastSet 67 = .ok (.iload_n 3, 1) := by decide +kernel
theorem d_Puzzles_leastSet_68 : decode b_Puzzles_leastSet 68 = .ok (.iaload, 1) := by decide +kernel
theorem d_Puzzles_leastSet_69 : decode b_Puzzles_leastSet 69 = .ok (.aload_n 0, 1) := by decide +kernel
theorem d_Puzzles_leastSet_70 : decode b_Puzzles_leastSet 70 = .ok (.getfield 25, 3) := by decide +kernel
theorem d_Puzzles_leastSet_73 : decode b_Puzzles_leastSet 73 = .ok (.iload_n 2, 1) := by decide +kernel
theorem d_Puzzles_leastSet_74 : decode b_Puzzles_leastSet 74 = .ok (.iaload, 1) := by decide +kernel
theorem d_Puzzles_leastSet_75 : decode b_Puzzles_leastSet 75 = .ok (.if_icmp .ge 5, 3) := by decide +kernel
theorem d_Puzzles_leastSet_78 : decode b_Puzzles_leastSet 78 = .ok (.iload_n 3, 1) := by decide +kernel
theorem d_Puzzles_leastSet_79 : decode b_Puzzles_leastSet 79 = .ok (.istore_n 2, 1) := by decide +kernel
theorem d_Puzzles_leastSet_80 : decode b_Puzzles_leastSet 80 = .ok (.iinc 3 1, 3) := by decide +kernel
theorem d_Puzzles_leastSet_83 : decode b_Puzzles_leastSet 83 = .ok (.goto (-79), 3) := by decide +kernel
theorem d_Puzzles_leastSet_86 : decode b_Puzzles_leastSet 86 = .ok (.iload_n 2, 1) := by decide +kernel
theorem d_Puzzles_leastSet_87 : decode b_Puzzles_leastSet 87 = .ok (.ireturn, 1) := by decide +kernel
