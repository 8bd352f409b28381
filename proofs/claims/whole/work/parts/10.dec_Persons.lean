theorem d_Persons_init_0 : decode b_Persons_init 0 = .ok (.aload_n 0, 1) := by decide +kernel
theorem d_Persons_init_1 : decode b_Persons_init 1 = .ok (.invokespecial 3, 3) := by decide +kernel
theorem d_Persons_init_4 : decode b_Persons_init 4 = .ok (.aload_n 0, 1) := by decide +kernel
theorem d_Persons_init_5 : decode b_Persons_init 5 = .ok (.bipush 20, 2) := by decide +kernel
theorem d_Persons_init_7 : decode b_Persons_init 7 = .ok (.newarray .int, 2) := by decide +kernel
theorem d_Persons_init_9 : decode b_Persons_init 9 = .ok (.putfield 9, 3) := by decide +kernel
theorem d_Persons_init_12 : decode b_Persons_init 12 = .ok (.aload_n 0, 1) := by decide +kernel
theorem d_Persons_init_13 : decode b_Persons_init 13 = .ok (.bipush 20, 2) := by decide +kernel
theorem d_Persons_init_15 : decode b_Persons_init 15 = .ok (.newarray .long, 2) := by decide +kernel
theorem d_Persons_init_17 : decode b_Persons_init 17 = .ok (.putfield 15, 3) := by decide +kernel
theorem d_Persons_init_20 : decode b_Persons_init 20 = .ok (.aload_n 0, 1) := by decide +kernel
theorem d_Persons_init_21 : decode b_Persons_init 21 = .ok (.bipush 20, 2) := by decide +kernel
theorem d_Persons_init_23 : decode b_Persons_init 23 = .ok (.newarray .long, 2) := by decide +kernel
theorem d_Persons_init_25 : decode b_Persons_init 25 = .ok (.putfield 19, 3) := by decide +kernel
theorem d_Persons_init_28 : decode b_Persons_init 28 = .ok (.aload_n 0, 1) := by decide +kernel
theorem d_Persons_init_29 : decode b_Persons_init 29 = .ok (.bipush 20, 2) := by decide +kernel
theorem d_Persons_init_31 : decode b_Persons_init 31 = .ok (.newarray .int, 2) := by decide +kernel
theorem d_Persons_init_33 : decode b_Persons_init 33 = .ok (.putfield 22, 3) := by decide +kernel
theorem d_Persons_init_36 : decode b_Persons_init 36 = .ok (.return_, 1) := by decide +kernel
theorem d_Persons_has_0 : decode b_Persons_has 0 = .ok (.iload_n 1, 1) := by decide +kernel
theorem d_Persons_has_1 : decode b_Persons_has 1 = .ok (.ifCond .lt 15, 3) := by decide +kernel
theorem d_Persons_has_4 : decode b_Persons_has 4 = .ok (.iload_n 1, 1) := by decide +kernel
theorem d_Persons_has_5 : decode b_Persons_has 5 = .ok (.aload_n 0, 1) := by decide +kernel
theorem d_Persons_has_6 : decode b_Persons_has 6 = .ok (.getfield 25, 3) := by decide +kernel
theorem d_Persons_has_9 : decode b_Persons_has 9 = .ok (.if_icmp .ge 7, 3) := by decide +kernel
theorem d_Persons_has_12 : decode b_Persons_has 12 = .ok (.iconst 1, 1) := by decide +kernel
theorem d_Persons_has_13 : decode b_Persons_has 13 = .ok (.goto 4, 3) := by decide +kernel
theorem d_Persons_has_16 : decode b_Persons_has 16 = .ok (.iconst 0, 1) := by decide +kernel
theorem d_Persons_has_17 : decode b_Persons_has 17 = .ok (.ireturn, 1) := by decide +kernel
theorem d_Persons_add_0 : decode b_Persons_add 0 = .ok (.aload_n 0, 1) := by decide +kernel
theorem d_Persons_add_1 : decode b_Persons_add 1 = .ok (.getfield 25, 3) := by decide +kernel
theorem d_Persons_add_4 : decode b_Persons_add 4 = .ok (.bipush 20, 2) := by decide +kernel
theorem d_Persons_add_6 : decode b_Persons_add 6 = .ok (.if_icmp .lt 5, 3) := by decide +kernel
theorem d_Persons_add_9 : decode b_Persons_add 9 = .ok (.iconst (-1), 1) := by decide +kernel
theorem d_Persons_add_10 : decode b_Persons_add 10 = .ok (.ireturn, 1) := by decide +kernel
theorem d_Persons_add_11 : decode b_Persons_add 11 = .ok (.aload_n 0, 1) := by decide +kernel
theorem d_Persons_add_12 : decode b_Persons_add 12 = .ok (.getfield 9, 3) := by decide +kernel
theorem d_Persons_add_15 : decode b_Persons_add 15 = .ok (.aload_n 0, 1) := by decide +kernel
theorem d_Persons_add_16 : decode b_Persons_add 16 = .ok (.getfield 25, 3) := by decide +kernel
theorem d_Persons_add_19 : decode b_Persons_add 19 = .ok (.iconst (-1), 1) := by decide +kernel
theorem d_Persons_add_20 : decode b_Persons_add 20 = .ok (.iastore, 1) := by decide +kernel
theorem d_Persons_add_21 : decode b_Persons_add 21 = .ok (.aload_n 0, 1) := by decide +kernel
theorem d_Persons_add_22 : decode b_Persons_add 22 = .ok (.dup, 1) := by decide +kernel
theorem d_Persons_add_23 : decode b_Persons_add 23 = .ok (.getfield 25, 3) := by decide +kernel
theorem d_Persons_add_26 : decode b_Persons_add 26 = .ok (.iconst 1, 1) := by decide +kernel
theorem d_Persons_add_27 : decode b_Persons_add 27 = .ok (.iadd, 1) := by decide +kernel
theorem d_Persons_add_28 : decode b_Persons_add 28 = .ok (.putfield 25, 3) := by decide +kernel
theorem d_Persons_add_31 : decode b_Persons_add 31 = .ok (.aload_n 0, 1) := by decide +kernel
theorem d_Persons_add_32 : decode b_Persons_add 32 = .ok (.getfield 25, 3) := by decide +kernel
theorem d_Persons_add_35 : decode b_Persons_add 35 = .ok (.iconst 1, 1) := by decide +kernel
theorem d_Persons_add_36 : decode b_Persons_add 36 = .ok (.isub, 1) := by decide +kernel
theorem d_Persons_add_37 : decode b_Persons_add 37 = .ok (.ireturn, 1) := by decide +kernel
theorem d_Persons_clearSums_0 : decode b_Persons_clearSums 0 = .ok (.aload_n 0, 1) := by decide +kernel
theorem d_Persons_clearSums_1 : decode b_Persons_clearSums 1 = .ok (.getfield 15, 3) := by decide +kernel
theorem d_Persons_clearSums_4 : decode b_Persons_clearSums 4 = .ok (.iload_n 1, 1) := by decide +kernel
theorem d_Persons_clearSums_5 : decode b_Persons_clearSums 5 = .ok (.lconst 0, 1) := by decide +kernel
theorem d_Persons_clearSums_6 : decode b_Persons_clearSums 6 = .ok (.lastore, 1) := by decide +kernel
theorem d_Persons_clearSums_7 : decode b_Persons_clearSums 7 = .ok (.aload_n 0, 1) := by decide +kernel
theorem d_Persons_clearSums_8 : decode b_Persons_clearSums 8 = .ok (.getfield 19, 3) := by decide +kernel
theorem d_Persons_clearSums_11 : decode b_Persons_clearSums 11 = .ok (.iload_n 1, 1) := by decide +kernel
theorem d_Persons_clearSums_12 : decode b_Persons_clearSums 12 = .ok (.lconst 0, 1) := by decide +kernel
theorem d_Persons_clearSums_13 : decode b_Persons_clearSums 13 = .ok (.lastore, 1) := by decide +kernel
theorem d_Persons_clearSums_14 : decode b_Persons_clearSums 14 = .ok (.aload_n 0, 1) := by decide +kernel
theorem d_Persons_clearSums_15 : decode b_Persons_clearSums 15 = .ok (.getfield 22, 3) := by decide +kernel
theorem d_Persons_clearSums_18 : decode b_Persons_clearSums 18 = .ok (.iload_n 1, 1) := by decide +kernel
theorem d_Persons_clearSums_19 : decode b_Persons_clearSums 19 = .ok (.iconst 0, 1) := by decide +kernel
theorem d_Persons_clearSums_20 : decode b_Persons_clearSums 20 = .ok (.iastore, 1) := by decide +kernel
theorem d_Persons_clearSums_21 : decode b_Persons_clearSums 21 = .ok (.return_, 1) := by decide +kernel
theorem d_Persons_addToSums_0 : decode b_Persons_addToSums 0 = .ok (.aload_n 0, 1) := by decide +kernel
theorem d_Persons_addToSums_1 : decode b_Persons_addToSums 1 = .ok (.getfield 15, 3) := by decide +kernel
theorem d_Persons_addToSums_4 : decode b_Persons_addToSums 4 = .ok (.iload_n 1, 1) := by decide +kernel
theorem d_Persons_addToSums_5 : decode b_Persons_addToSums 5 = .ok (.dup2, 1) := by decide +kernel
theorem d_Persons_addToSums_6 : decode b_Persons_addToSums 6 = .ok (.laload, 1) := by decide +kernel
theorem d_Persons_addToSums_7 : decode b_Persons_addToSums 7 = .ok (.lload_n 2, 1) := by decide +kernel
theorem d_Persons_addToSums_8 : decode b_Persons_addToSums 8 = .ok (.ladd, 1) := by decide +kernel
theorem d_Persons_addToSums_9 : decode b_Persons_addToSums 9 = .ok (.lastore, 1) := by decide +kernel
theorem d_Persons_addToSums_10 : decode b_Persons_addToSums 10 = .ok (.aload_n 0, 1) := by decide +kernel
theorem d_Persons_addToSums_11 : decode b_Persons_addToSums 11 = .ok (.getfield 19, 3) := by decide +kernel
theorem d_Persons_addToSums_14 : decode b_Persons_addToSums 14 = .ok (.iload_n 1, 1) := by decide +kernel
theorem d_Persons_addToSums_15 : decode b_Persons_addToSums 15 = .ok (.dup2, 1) := by decide +kernel
theorem d_Persons_addToSums_16 : decode b_Persons_addToSums 16 = .ok (.laload, 1) := by decide +kernel
theorem d_Persons_addToSums_17 : decode b_Persons_addToSums 17 = .ok (.iload 4, 2) := by decide +kernel
theorem d_Persons_addToSums_19 : decode b_Persons_addToSums 19 = .ok (.i2l, 1) := by decide +kernel
theorem d_Persons_addToSums_20 : decode b_Persons_addToSums 20 = .ok (.ladd, 1) := by decide +kernel
theorem d_Persons_addToSums_21 : decode b_Persons_addToSums 21 = .ok (.lastore, 1) := by decide +kernel
theorem d_Persons_addToSums_22 : decode b_Persons_addToSums 22 = .ok (.aload_n 0, 1) := by decide +kernel
theorem d_Persons_addToSums_23 : decode b_Persons_addToSums 23 = .ok (.getfield 22, 3) := by decide +kernel
theorem d_Persons_addToSums_26 : decode b_Persons_addToSums 26 = .ok (.iload_n 1, 1) := by decide +kernel
theorem d_Persons_addToSums_27 : decode b_Persons_addToSums 27 = .ok (.dup2, 1) := by decide +kernel
theorem d_Persons_addToSums_28 : decode b_Persons_addToSums 28 = .ok (.iaload, 1) := by decide +kernel
theorem d_Persons_addToSums_29 : decode b_Persons_addToSums 29 = .ok (.iconst 1, 1) := by decide +kernel
theorem d_Persons_addToSums_30 : decode b_Persons_addToSums 30 = .ok (.iadd, 1) := by decide +kernel
theorem d_Persons_addToSums_31 : decode b_Persons_addToSums 31 = .ok (.iastore, 1) := by decide +kernel
theorem d_Persons_addToSums_32 : decode b_Persons_addToSums 32 = .ok (.return_, 1) := by decide +kernel
theorem d_Persons_alike_0 : decode b_Persons_alike 0 = .ok (.aload_n 0, 1) := by decide +kernel
theorem d_Persons_alike_1 : decode b_Persons_alike 1 = .ok (.getfield 15, 3) := by decide +kernel
theorem d_Persons_alike_4 : decode b_Persons_alike 4 = .ok (.iload_n 1, 1) := by decide +kernel
theorem d_Persons_alike_5 : decode b_Persons_alike 5 = .ok (.laload, 1) := by decide +kernel
theorem d_Persons_alike_6 : decode b_Persons_alike 6 = .ok (.aload_n 0, 1) := by decide +kernel
theorem d_Persons_alike_7 : decode b_Persons_alike 7 = .ok (.getfield 15, 3) := by decide +kernel
theorem d_Persons_alike_10 : decode b_Persons_alike 10 = .ok (.iload_n 2, 1) := by decide +kernel
theorem d_Persons_alike_11 : decode b_Persons_alike 11 = .ok (.laload, 1) := by decide +kernel
theorem d_Persons_alike_12 : decode b_Persons_alike 12 = .ok (.lcmp, 1) := by decide +kernel
theorem d_Persons_alike_13 : decode b_Persons_alike 13 = .ok (.ifCond .ne 27, 3) := by decide +kernel
theorem d_Persons_alike_16 : decode b_Persons_alike 16 = .ok (.iload_n 3, 1) := by decide +kernel
theorem d_Persons_alike_17 : decode b_Persons_alike 17 = .ok (.ifCond .eq 19, 3) := by decide +kernel
theorem d_Persons_alike_20 : decode b_Persons_alike 20 = .ok (.aload_n 0, 1) := by decide +kernel
theorem d_Persons_alike_21 : decode b_Persons_alike 21 = .ok (.getfield 19, 3) := by decide +kernel
theorem d_Persons_alike_24 : decode b_Persons_alike 24 = .ok (.iload_n 1, 1) := by decide +kernel
theorem d_Persons_alike_25 : decode b_Persons_alike 25 = .ok (.laload, 1) := by decide +kernel
theorem d_Persons_alike_26 : decode b_Persons_alike 26 = .ok (.aload_n 0, 1) := by decide +kernel
theorem d_Persons_alike_27 : decode b_Persons_alike 27 = .ok (.getfield 19, 3) := by decide +kernel
theorem d_Persons_alike_30 : decode b_Persons_alike 30 = .ok (.iload_n 2, 1) := by decide +kernel
theorem d_Persons_alike_31 : decode b_Persons_alike 31 = .ok (.laload, 1) := by decide +kernel
theorem d_Persons_alike_32 : decode b_Persons_alike 32 = .ok (.lcmp, 1) := by decide +kernel
theorem d_Persons_alike_33 : decode b_Persons_alike 33 = .ok (.ifCond .ne 7, 3) := by decide +kernel
theorem d_Persons_alike_36 : decode b_Persons_alike 36 = .ok (.iconst 1, 1) := by decide +kernel
theorem d_Persons_alike_37 : decode b_Persons_alike 37 = .ok (.goto 4, 3) := by decide +kernel
theorem d_Persons_alike_40 : decode b_Persons_alike 40 = .ok (.iconst 0, 1) := by decide +kernel
theorem d_Persons_alike_41 : decode b_Persons_alike 41 = .ok (.ireturn, 1) := by decide +kernel
theorem d_Persons_isAhead_0 : decode b_Persons_isAhead 0 = .ok (.aload_n 0, 1) := by decide +kernel
theorem d_Persons_isAhead_1 : decode b_Persons_isAhead 1 = .ok (.getfield 15, 3) := by decide +kernel
theorem d_Persons_isAhead_4 : decode b_Persons_isAhead 4 = .ok (.iload_n 1, 1) := by decide +kernel
theorem d_Persons_isAhead_5 : decode b_Persons_isAhead 5 = .ok (.laload, 1) := by decide +kernel
theorem d_Persons_isAhead_6 : decode b_Persons_isAhead 6 = .ok (.aload_n 0, 1) := by decide +kernel
theorem d_Persons_isAhead_7 : decode b_Persons_isAhead 7 = .ok (.getfield 15, 3) := by decide +kernel
theorem d_Persons_isAhead_10 : decode b_Persons_isAhead 10 = .ok (.iload_n 2, 1) := by decide +kernel
theorem d_Persons_isAhead_11 : decode b_Persons_isAhead 11 = .ok (.laload, 1) := by decide +kernel
theorem d_Persons_isAhead_12 : decode b_Persons_isAhead 12 = .ok (.lcmp, 1) := by decide +kernel
theorem d_Persons_isAhead_13 : decode b_Persons_isAhead 13 = .ok (.ifCond .eq 25, 3) := by decide +kernel
theorem d_Persons_isAhead_16 : decode b_Persons_isAhead 16 = .ok (.aload_n 0, 1) := by decide +kernel
theorem d_Persons_isAhead_17 : decode b_Persons_isAhead 17 = .ok (.getfield 15, 3) := by decide +kernel
theorem d_Persons_isAhead_20 : decode b_Persons_isAhead 20 = .ok (.iload_n 1, 1) := by decide +kernel
theorem d_Persons_isAhead_21 : decode b_Persons_isAhead 21 = .ok (.laload, 1) := by decide +kernel
theorem d_Persons_isAhead_22 : decode b_Persons_isAhead 22 = .ok (.aload_n 0, 1) := by decide +kernel
theorem d_Persons_isAhead_23 : decode b_Persons_isAhead 23 = .ok (.getfield 15, 3) := by decide +kernel
theorem d_Persons_isAhead_26 : decode b_Persons_isAhead 26 = .ok (.iload_n 2, 1) := by decide +kernel
theorem d_Persons_isAhead_27 : decode b_Persons_isAhead 27 = .ok (.laload, 1) := by decide +kernel
theorem d_Persons_isAhead_28 : decode b_Persons_isAhead 28 = .ok (.lcmp, 1) := by decide +kernel
theorem d_Persons_isAhead_29 : decode b_Persons_isAhead 29 = .ok (.ifCond .le 7, 3) := by decide +kernel
theorem d_Persons_isAhead_32 : decode b_Persons_isAhead 32 = .ok (.iconst 1, 1) := by decide +kernel
theorem d_Persons_isAhead_33 : decode b_Persons_isAhead 33 = .ok (.goto 4, 3) := by decide +kernel
theorem d_Persons_isAhead_36 : decode b_Persons_isAhead 36 = .ok (.iconst 0, 1) := by decide +kernel
theorem d_Persons_isAhead_37 : decode b_Persons_isAhead 37 = .ok (.ireturn, 1) := by decide +kernel
theorem d_Persons_isAhead_38 : decode b_Persons_isAhead 38 = .ok (.iload_n 3, 1) := by decide +kernel
theorem d_Persons_isAhead_39 : decode b_Persons_isAhead 39 = .ok (.ifCond .eq 23, 3) := by decide +kernel
theorem d_Persons_isAhead_42 : decode b_Persons_isAhead 42 = .ok (.aload_n 0, 1) := by decide +kernel
theorem d_Persons_isAhead_43 : decode b_Persons_isAhead 43 = .ok (.getfield 19, 3) := by decide +kernel
theorem d_Persons_isAhead_46 : decode b_Persons_isAhead 46 = .ok (.iload_n 1, 1) := by decide +kernel
theorem d_Persons_isAhead_47 : decode b_Persons_isAhead 47 = .ok (.laload, 1) := by decide +kernel
theorem d_Persons_isAhead_48 : decode b_Persons_isAhead 48 = .ok (.aload_n 0, 1) := by decide +kernel
theorem d_Persons_isAhead_49 : decode b_Persons_isAhead 49 = .ok (.getfield 19, 3) := by decide +kernel
theorem d_Persons_isAhead_52 : decode b_Persons_isAhead 52 = .ok (.iload_n 2, 1) := by decide +kernel
theorem d_Persons_isAhead_53 : decode b_Persons_isAhead 53 = .ok (.laload, 1) := by decide +kernel
theorem d_Persons_isAhead_54 : decode b_Persons_isAhead 54 = .ok (.lcmp, 1) := by decide +kernel
theorem d_Persons_isAhead_55 : decode b_Persons_isAhead 55 = .ok (.ifCond .ge 7, 3) := by decide +kernel
theorem d_Persons_isAhead_58 : decode b_Persons_isAhead 58 = .ok (.iconst 1, 1) := by decide +kernel
theorem d_Persons_isAhead_59 : decode b_Persons_isAhead 59 = .ok (.goto 4, 3) := by decide +kernel
theorem d_Persons_isAhead_62 : decode b_Persons_isAhead 62 = .ok (.iconst 0, 1) := by decide +kernel
theorem d_Persons_isAhead_63 : decode b_Persons_isAhead 63 = .ok (.ireturn, 1) := by decide +kernel
theorem d_Persons_rankOf_0 : decode b_Persons_rankOf 0 = .ok (.iconst 1, 1) := by decide +kernel
theorem d_Persons_rankOf_1 : decode b_Persons_rankOf 1 = .ok (.istore_n 3, 1) := by decide +kernel
theorem d_Persons_rankOf_2 : decode b_Persons_rankOf 2 = .ok (.iconst 0, 1) := by decide +kernel
theorem d_Persons_rankOf_3 : decode b_Persons_rankOf 3 = .ok (.istore 4, 2) := by decide +kernel
theorem d_Persons_rankOf_5 : decode b_Persons_rankOf 5 = .ok (.iload 4, 2) := by decide +kernel
theorem d_Persons_rankOf_7 : decode b_Persons_rankOf 7 = .ok (.aload_n 0, 1) := by decide +kernel
theorem d_Persons_rankOf_8 : decode b_Persons_rankOf 8 = .ok (.getfield 25, 3) := by decide +kernel
theorem d_Persons_rankOf_11 : decode b_Persons_rankOf 11 = .ok (.if_icmp .ge 23, 3) := by decide +kernel
theorem d_Persons_rankOf_14 : decode b_Persons_rankOf 14 = .ok (.aload_n 0, 1) := by decide +kernel
theorem d_Persons_rankOf_15 : decode b_Persons_rankOf 15 = .ok (.iload 4, 2) := by decide +kernel
theorem d_Persons_rankOf_17 : decode b_Persons_rankOf 17 = .ok (.iload_n 1, 1) := by decide +kernel
theorem d_Persons_rankOf_18 : decode b_Persons_rankOf 18 = .ok (.iload_n 2, 1) := by decide +kernel
theorem d_Persons_rankOf_19 : decode b_Persons_rankOf 19 = .ok (.invokevirtual 29, 3) := by decide +kernel
theorem d_Persons_rankOf_22 : decode b_Persons_rankOf 22 = .ok (.ifCond .eq 6, 3) := by decide +kernel
theorem d_Persons_rankOf_25 : decode b_Persons_rankOf 25 = .ok (.iinc 3 1, 3) := by decide +kernel
theorem d_Persons_rankOf_28 : decode b_Persons_rankOf 28 = .ok (.iinc 4 1, 3) := by decide +kernel
theorem d_Persons_rankOf_31 : decode b_Persons_rankOf 31 = .ok (.goto (-26), 3) := by decide +kernel
theorem d_Persons_rankOf_34 : decode b_Persons_rankOf 34 = .ok (.iload_n 3, 1) := by decide +kernel
theorem d_Persons_rankOf_35 : decode b_Persons_rankOf 35 = .ok (.ireturn, 1) := by decide +kernel
theorem d_Persons_inPlace_0 : decode b_Persons_inPlace 0 = .ok (.iconst 0, 1) := by decide +kernel
theorem d_Persons_inPlace_1 : decode b_Persons_inPlace 1 = .ok (.istore_n 3, 1) := by decide +kernel
theorem d_Persons_inPlace_2 : decode b_Persons_inPlace 2 = .ok (.iload_n 3, 1) := by decide +kernel
theorem d_Persons_inPlace_3 : decode b_Persons_inPlace 3 = .ok (.aload_n 0, 1) := by decide +kernel
theorem d_Persons_inPlace_4 : decode b_Persons_inPlace 4 = .ok (.getfield 25, 3) := by decide +kernel
theorem d_Persons_inPlace_7 : decode b_Persons_inPlace 7 = .ok (.if_icmp .ge 21, 3) := by decide +kernel
theorem d_Persons_inPlace_10 : decode b_Persons_inPlace 10 = .ok (.aload_n 0, 1) := by decide +kernel
theorem d_Persons_inPlace_11 : decode b_Persons_inPlace 11 = .ok (.iload_n 3, 1) := by decide +kernel
theorem d_Persons_inPlace_12 : decode b_Persons_inPlace 12 = .ok (.iload_n 2, 1) := by decide +kernel
theorem d_Persons_inPlace_13 : decode b_Persons_inPlace 13 = .ok (.invokevirtual 33, 3) := by decide +kernel
theorem d_Persons_inPlace_16 : decode b_Persons_inPlace 16 = .ok (.iload_n 1, 1) := by decide +kernel
theorem d_Persons_inPlace_17 : decode b_Persons_inPlace 17 = .ok (.if_icmp .ne 5, 3) := by decide +kernel
theorem d_Persons_inPlace_20 : decode b_Persons_inPlace 20 = .ok (.iload_n 3, 1) := by decide +kernel
theorem d_Persons_inPlace_21 : decode b_Persons_inPlace 21 = .ok (.ireturn, 1) := by decide +kernel
theorem d_Persons_inPlace_22 : decode b_Persons_inPlace 22 = .ok (.iinc 3 1, 3) := by decide +kernel
theorem d_Persons_inPlace_25 : decode b_Persons_inPlace 25 = .ok (.goto (-23), 3) := by decide +kernel
theorem d_Persons_inPlace_28 : decode b_Persons_inPlace 28 = .ok (.iconst (-1), 1) := by decide +kernel
theorem d_Persons_inPlace_29 : decode b_Persons_inPlace 29 = .ok (.ireturn, 1) := by decide +kernel
theorem d_Persons_howManyBefore_0 : decode b_Persons_howManyBefore 0 = .ok (.aload_n 0, 1) := by decide +kernel
theorem d_Persons_howManyBefore_1 : decode b_Persons_howManyBefore 1 = .ok (.iload_n 1, 1) := by decide +kernel
theorem d_Persons_howManyBefore_2 : decode b_Persons_howManyBefore 2 = .ok (.iload_n 2, 1) := by decide +kernel
theorem d_Persons_howManyBefore_3 : decode b_Persons_howManyBefore 3 = .ok (.invokevirtual 37, 3) := by decide +kernel
theorem d_Persons_howManyBefore_6 : decode b_Persons_howManyBefore 6 = .ok (.iconst 1, 1) := by decide +kernel
theorem d_Persons_howManyBefore_7 : decode b_Persons_howManyBefore 7 = .ok (.isub, 1) := by decide +kernel
theorem d_Persons_howManyBefore_8 : decode b_Persons_howManyBefore 8 = .ok (.istore_n 3, 1) := by decide +kernel
theorem d_Persons_howManyBefore_9 : decode b_Persons_howManyBefore 9 = .ok (.iconst 0, 1) := by decide +kernel
theorem d_Persons_howManyBefore_10 : decode b_Persons_howManyBefore 10 = .ok (.istore 4, 2) := by decide +kernel
theorem d_Persons_howManyBefore_12 : decode b_Persons_howManyBefore 12 = .ok (.iload 4, 2) := by decide +kernel
theorem d_Persons_howManyBefore_14 : decode b_Persons_howManyBefore 14 = .ok (.iload_n 1, 1) := by decide +kernel
theorem d_Persons_howManyBefore_15 : decode b_Persons_howManyBefore 15 = .ok (.if_icmp .ge 23, 3) := by decide +kernel
theorem d_Persons_howManyBefore_18 : decode b_Persons_howManyBefore 18 = .ok (.aload_n 0, 1) := by decide +kernel
theorem d_Persons_howManyBefore_19 : decode b_Persons_howManyBefore 19 = .ok (.iload 4, 2) := by decide +kernel
theorem d_Persons_howManyBefore_21 : decode b_Persons_howManyBefore 21 = .ok (.iload_n 1, 1) := by decide +kernel
theorem d_Persons_howManyBefore_22 : decode b_Persons_howManyBefore 22 = .ok (.iload_n 2, 1) := by decide +kernel
theorem d_Persons_howManyBefore_23 : decode b_Persons_howManyBefore 23 = .ok (.invokevirtual 40, 3) := by decide +kernel
theorem d_Persons_howManyBefore_26 : decode b_Persons_howManyBefore 26 = .ok (.ifCond .eq 6, 3) := by decide +kernel
theorem d_Persons_howManyBefore_29 : decode b_Persons_howManyBefore 29 = .ok (.iinc 3 1, 3) := by decide +kernel
theorem d_Persons_howManyBefore_32 : decode b_Persons_howManyBefore 32 = .ok (.iinc 4 1, 3) := by decide +kernel
theorem d_Persons_howManyBefore_35 : decode b_Persons_howManyBefore 35 = .ok (.goto (-23), 3) := by decide +kernel
theorem d_Persons_howManyBefore_38 : decode b_Persons_howManyBefore 38 = .ok (.iload_n 3, 1) := by decide +kernel
theorem d_Persons_howManyBefore_39 : decode b_Persons_howManyBefore 39 = .ok (.ireturn, 1) := by decide +kernel
