theorem d_Rules_init_0 : decode b_Rules_init 0 = .ok (.aload_n 0, 1) := by decide +kernel
theorem d_Rules_init_1 : decode b_Rules_init 1 = .ok (.invokespecial 1, 3) := by decide +kernel
theorem d_Rules_init_4 : decode b_Rules_init 4 = .ok (.aload_n 0, 1) := by decide +kernel
theorem d_Rules_init_5 : decode b_Rules_init 5 = .ok (.iconst 5, 1) := by decide +kernel
theorem d_Rules_init_6 : decode b_Rules_init 6 = .ok (.newarray .int, 2) := by decide +kernel
theorem d_Rules_init_8 : decode b_Rules_init 8 = .ok (.dup, 1) := by decide +kernel
theorem d_Rules_init_9 : decode b_Rules_init 9 = .ok (.iconst 0, 1) := by decide +kernel
theorem d_Rules_init_10 : decode b_Rules_init 10 = .ok (.bipush 100, 2) := by decide +kernel
theorem d_Rules_init_12 : decode b_Rules_init 12 = .ok (.iastore, 1) := by decide +kernel
theorem d_Rules_init_13 : decode b_Rules_init 13 = .ok (.dup, 1) := by decide +kernel
theorem d_Rules_init_14 : decode b_Rules_init 14 = .ok (.iconst 1, 1) := by decide +kernel
theorem d_Rules_init_15 : decode b_Rules_init 15 = .ok (.iconst 0, 1) := by decide +kernel
theorem d_Rules_init_16 : decode b_Rules_init 16 = .ok (.iastore, 1) := by decide +kernel
theorem d_Rules_init_17 : decode b_Rules_init 17 = .ok (.dup, 1) := by decide +kernel
theorem d_Rules_init_18 : decode b_Rules_init 18 = .ok (.iconst 2, 1) := by decide +kernel
theorem d_Rules_init_19 : decode b_Rules_init 19 = .ok (.iconst 0, 1) := by decide +kernel
theorem d_Rules_init_20 : decode b_Rules_init 20 = .ok (.iastore, 1) := by decide +kernel
theorem d_Rules_init_21 : decode b_Rules_init 21 = .ok (.dup, 1) := by decide +kernel
theorem d_Rules_init_22 : decode b_Rules_init 22 = .ok (.iconst 3, 1) := by decide +kernel
theorem d_Rules_init_23 : decode b_Rules_init 23 = .ok (.sipush 3600, 3) := by decide +kernel
theorem d_Rules_init_26 : decode b_Rules_init 26 = .ok (.iastore, 1) := by decide +kernel
theorem d_Rules_init_27 : decode b_Rules_init 27 = .ok (.dup, 1) := by decide +kernel
theorem d_Rules_init_28 : decode b_Rules_init 28 = .ok (.iconst 4, 1) := by decide +kernel
theorem d_Rules_init_29 : decode b_Rules_init 29 = .ok (.iconst 1, 1) := by decide +kernel
theorem d_Rules_init_30 : decode b_Rules_init 30 = .ok (.iastore, 1) := by decide +kernel
theorem d_Rules_init_31 : decode b_Rules_init 31 = .ok (.putfield 7, 3) := by decide +kernel
theorem d_Rules_init_34 : decode b_Rules_init 34 = .ok (.aload_n 0, 1) := by decide +kernel
theorem d_Rules_init_35 : decode b_Rules_init 35 = .ok (.iconst 5, 1) := by decide +kernel
theorem d_Rules_init_36 : decode b_Rules_init 36 = .ok (.newarray .int, 2) := by decide +kernel
theorem d_Rules_init_38 : decode b_Rules_init 38 = .ok (.dup, 1) := by decide +kernel
theorem d_Rules_init_39 : decode b_Rules_init 39 = .ok (.iconst 0, 1) := by decide +kernel
theorem d_Rules_init_40 : decode b_Rules_init 40 = .ok (.bipush 100, 2) := by decide +kernel
theorem d_Rules_init_42 : decode b_Rules_init 42 = .ok (.iastore, 1) := by decide +kernel
theorem d_Rules_init_43 : decode b_Rules_init 43 = .ok (.dup, 1) := by decide +kernel
theorem d_Rules_init_44 : decode b_Rules_init 44 = .ok (.iconst 1, 1) := by decide +kernel
theorem d_Rules_init_45 : decode b_Rules_init 45 = .ok (.iconst 0, 1) := by decide +kernel
theorem d_Rules_init_46 : decode b_Rules_init 46 = .ok (.iastore, 1) := by decide +kernel
theorem d_Rules_init_47 : decode b_Rules_init 47 = .ok (.dup, 1) := by decide +kernel
theorem d_Rules_init_48 : decode b_Rules_init 48 = .ok (.iconst 2, 1) := by decide +kernel
theorem d_Rules_init_49 : decode b_Rules_init 49 = .ok (.iconst 0, 1) := by decide +kernel
theorem d_Rules_init_50 : decode b_Rules_init 50 = .ok (.iastore, 1) := by decide +kernel
theorem d_Rules_init_51 : decode b_Rules_init 51 = .ok (.dup, 1) := by decide +kernel
theorem d_Rules_init_52 : decode b_Rules_init 52 = .ok (.iconst 3, 1) := by decide +kernel
theorem d_Rules_init_53 : decode b_Rules_init 53 = .ok (.sipush 3600, 3) := by decide +kernel
theorem d_Rules_init_56 : decode b_Rules_init 56 = .ok (.iastore, 1) := by decide +kernel
theorem d_Rules_init_57 : decode b_Rules_init 57 = .ok (.dup, 1) := by decide +kernel
theorem d_Rules_init_58 : decode b_Rules_init 58 = .ok (.iconst 4, 1) := by decide +kernel
theorem d_Rules_init_59 : decode b_Rules_init 59 = .ok (.iconst 1, 1) := by decide +kernel
theorem d_Rules_init_60 : decode b_Rules_init 60 = .ok (.iastore, 1) := by decide +kernel
theorem d_Rules_init_61 : decode b_Rules_init 61 = .ok (.putfield 13, 3) := by decide +kernel
theorem d_Rules_init_64 : decode b_Rules_init 64 = .ok (.return_, 1) := by decide +kernel
theorem d_Rules_beginTelling_0 : decode b_Rules_beginTelling 0 = .ok (.aload_n 0, 1) := by decide +kernel
theorem d_Rules_beginTelling_1 : decode b_Rules_beginTelling 1 = .ok (.getfield 7, 3) := by decide +kernel
theorem d_Rules_beginTelling_4 : decode b_Rules_beginTelling 4 = .ok (.iconst 0, 1) := by decide +kernel
theorem d_Rules_beginTelling_5 : decode b_Rules_beginTelling 5 = .ok (.aload_n 0, 1) := by decide +kernel
theorem d_Rules_beginTelling_6 : decode b_Rules_beginTelling 6 = .ok (.getfield 13, 3) := by decide +kernel
theorem d_Rules_beginTelling_9 : decode b_Rules_beginTelling 9 = .ok (.iconst 0, 1) := by decide +kernel
theorem d_Rules_beginTelling_10 : decode b_Rules_beginTelling 10 = .ok (.aload_n 0, 1) := by decide +kernel
theorem d_Rules_beginTelling_11 : decode b_Rules_beginTelling 11 = .ok (.getfield 7, 3) := by decide +kernel
theorem d_Rules_beginTelling_14 : decode b_Rules_beginTelling 14 = .ok (.arraylength, 1) := by decide +kernel
theorem d_Rules_beginTelling_15 : decode b_Rules_beginTelling 15 = .ok (.invokestatic 16, 3) := by decide +kernel
theorem d_Rules_beginTelling_18 : decode b_Rules_beginTelling 18 = .ok (.return_, 1) := by decide +kernel
theorem d_Rules_tell_0 : decode b_Rules_tell 0 = .ok (.aload_n 0, 1) := by decide +kernel
theorem d_Rules_tell_1 : decode b_Rules_tell 1 = .ok (.getfield 13, 3) := by decide +kernel
theorem d_Rules_tell_4 : decode b_Rules_tell 4 = .ok (.iload_n 1, 1) := by decide +kernel
theorem d_Rules_tell_5 : decode b_Rules_tell 5 = .ok (.iload_n 2, 1) := by decide +kernel
theorem d_Rules_tell_6 : decode b_Rules_tell 6 = .ok (.iastore, 1) := by decide +kernel
theorem d_Rules_tell_7 : decode b_Rules_tell 7 = .ok (.return_, 1) := by decide +kernel
theorem d_Rules_endTelling_0 : decode b_Rules_endTelling 0 = .ok (.aload_n 0, 1) := by decide +kernel
theorem d_Rules_endTelling_1 : decode b_Rules_endTelling 1 = .ok (.getfield 13, 3) := by decide +kernel
theorem d_Rules_endTelling_4 : decode b_Rules_endTelling 4 = .ok (.iconst 0, 1) := by decide +kernel
theorem d_Rules_endTelling_5 : decode b_Rules_endTelling 5 = .ok (.aload_n 0, 1) := by decide +kernel
theorem d_Rules_endTelling_6 : decode b_Rules_endTelling 6 = .ok (.getfield 7, 3) := by decide +kernel
theorem d_Rules_endTelling_9 : decode b_Rules_endTelling 9 = .ok (.iconst 0, 1) := by decide +kernel
theorem d_Rules_endTelling_10 : decode b_Rules_endTelling 10 = .ok (.aload_n 0, 1) := by decide +kernel
theorem d_Rules_endTelling_11 : decode b_Rules_endTelling 11 = .ok (.getfield 7, 3) := by decide +kernel
theorem d_Rules_endTelling_14 : decode b_Rules_endTelling 14 = .ok (.arraylength, 1) := by decide +kernel
theorem d_Rules_endTelling_15 : decode b_Rules_endTelling 15 = .ok (.invokestatic 16, 3) := by decide +kernel
theorem d_Rules_endTelling_18 : decode b_Rules_endTelling 18 = .ok (.return_, 1) := by decide +kernel
theorem d_Rules_isLate_0 : decode b_Rules_isLate 0 = .ok (.iload_n 1, 1) := by decide +kernel
theorem d_Rules_isLate_1 : decode b_Rules_isLate 1 = .ok (.aload_n 0, 1) := by decide +kernel
theorem d_Rules_isLate_2 : decode b_Rules_isLate 2 = .ok (.getfield 7, 3) := by decide +kernel
theorem d_Rules_isLate_5 : decode b_Rules_isLate 5 = .ok (.iconst 3, 1) := by decide +kernel
theorem d_Rules_isLate_6 : decode b_Rules_isLate 6 = .ok (.iaload, 1) := by decide +kernel
theorem d_Rules_isLate_7 : decode b_Rules_isLate 7 = .ok (.if_icmp .le 7, 3) := by decide +kernel
theorem d_Rules_isLate_10 : decode b_Rules_isLate 10 = .ok (.iconst 1, 1) := by decide +kernel
theorem d_Rules_isLate_11 : decode b_Rules_isLate 11 = .ok (.goto 4, 3) := by decide +kernel
theorem d_Rules_isLate_14 : decode b_Rules_isLate 14 = .ok (.iconst 0, 1) := by decide +kernel
theorem d_Rules_isLate_15 : decode b_Rules_isLate 15 = .ok (.ireturn, 1) := by decide +kernel
theorem d_Rules_timesPart_0 : decode b_Rules_timesPart 0 = .ok (.aload_n 0, 1) := by decide +kernel
theorem d_Rules_timesPart_1 : decode b_Rules_timesPart 1 = .ok (.getfield 7, 3) := by decide +kernel
theorem d_Rules_timesPart_4 : decode b_Rules_timesPart 4 = .ok (.iconst 4, 1) := by decide +kernel
theorem d_Rules_timesPart_5 : decode b_Rules_timesPart 5 = .ok (.iaload, 1) := by decide +kernel
theorem d_Rules_timesPart_6 : decode b_Rules_timesPart 6 = .ok (.iconst 1, 1) := by decide +kernel
theorem d_Rules_timesPart_7 : decode b_Rules_timesPart 7 = .ok (.if_icmp .ne 7, 3) := by decide +kernel
theorem d_Rules_timesPart_10 : decode b_Rules_timesPart 10 = .ok (.iconst 1, 1) := by decide +kernel
theorem d_Rules_timesPart_11 : decode b_Rules_timesPart 11 = .ok (.goto 4, 3) := by decide +kernel
theorem d_Rules_timesPart_14 : decode b_Rules_timesPart 14 = .ok (.iconst 0, 1) := by decide +kernel
theorem d_Rules_timesPart_15 : decode b_Rules_timesPart 15 = .ok (.ireturn, 1) := by decide +kernel
theorem d_Rules_worth_0 : decode b_Rules_worth 0 = .ok (.iload_n 1, 1) := by decide +kernel
theorem d_Rules_worth_1 : decode b_Rules_worth 1 = .ok (.i2l, 1) := by decide +kernel
theorem d_Rules_worth_2 : decode b_Rules_worth 2 = .ok (.aload_n 0, 1) := by decide +kernel
theorem d_Rules_worth_3 : decode b_Rules_worth 3 = .ok (.getfield 7, 3) := by decide +kernel
theorem d_Rules_worth_6 : decode b_Rules_worth 6 = .ok (.iconst 0, 1) := by decide +kernel
theorem d_Rules_worth_7 : decode b_Rules_worth 7 = .ok (.iaload, 1) := by decide +kernel
theorem d_Rules_worth_8 : decode b_Rules_worth 8 = .ok (.i2l, 1) := by decide +kernel
theorem d_Rules_worth_9 : decode b_Rules_worth 9 = .ok (.lmul, 1) := by decide +kernel
theorem d_Rules_worth_10 : decode b_Rules_worth 10 = .ok (.lstore 4, 2) := by decide +kernel
theorem d_Rules_worth_12 : decode b_Rules_worth 12 = .ok (.iload_n 1, 1) := by decide +kernel
theorem d_Rules_worth_13 : decode b_Rules_worth 13 = .ok (.i2l, 1) := by decide +kernel
theorem d_Rules_worth_14 : decode b_Rules_worth 14 = .ok (.aload_n 0, 1) := by decide +kernel
theorem d_Rules_worth_15 : decode b_Rules_worth 15 = .ok (.getfield 7, 3) := by decide +kernel
theorem d_Rules_worth_18 : decode b_Rules_worth 18 = .ok (.iconst 1, 1) := by decide +kernel
theorem d_Rules_worth_19 : decode b_Rules_worth 19 = .ok (.iaload, 1) := by decide +kernel
theorem d_Rules_worth_20 : decode b_Rules_worth 20 = .ok (.i2l, 1) := by decide +kernel
theorem d_Rules_worth_21 : decode b_Rules_worth 21 = .ok (.lmul, 1) := by decide +kernel
theorem d_Rules_worth_22 : decode b_Rules_worth 22 = .ok (.iload_n 2, 1) := by decide +kernel
theorem d_Rules_worth_23 : decode b_Rules_worth 23 = .ok (.bipush 60, 2) := by decide +kernel
theorem d_Rules_worth_25 : decode b_Rules_worth 25 = .ok (.idiv, 1) := by decide +kernel
theorem d_Rules_worth_26 : decode b_Rules_worth 26 = .ok (.i2l, 1) := by decide +kernel
theorem d_Rules_worth_27 : decode b_Rules_worth 27 = .ok (.lmul, 1) := by decide +kernel
theorem d_Rules_worth_28 : decode b_Rules_worth 28 = .ok (.lstore 6, 2) := by decide +kernel
theorem d_Rules_worth_30 : decode b_Rules_worth 30 = .ok (.aload_n 0, 1) := by decide +kernel
theorem d_Rules_worth_31 : decode b_Rules_worth 31 = .ok (.getfield 7, 3) := by decide +kernel
theorem d_Rules_worth_34 : decode b_Rules_worth 34 = .ok (.iconst 2, 1) := by decide +kernel
theorem d_Rules_worth_35 : decode b_Rules_worth 35 = .ok (.iaload, 1) := by decide +kernel
theorem d_Rules_worth_36 : decode b_Rules_worth 36 = .ok (.i2l, 1) := by decide +kernel
theorem d_Rules_worth_37 : decode b_Rules_worth 37 = .ok (.iload_n 3, 1) := by decide +kernel
theorem d_Rules_worth_38 : decode b_Rules_worth 38 = .ok (.i2l, 1) := by decide +kernel
theorem d_Rules_worth_39 : decode b_Rules_worth 39 = .ok (.lmul, 1) := by decide +kernel
theorem d_Rules_worth_40 : decode b_Rules_worth 40 = .ok (.lstore 8, 2) := by decide +kernel
theorem d_Rules_worth_42 : decode b_Rules_worth 42 = .ok (.lconst 0, 1) := by decide +kernel
theorem d_Rules_worth_43 : decode b_Rules_worth 43 = .ok (.lload 4, 2) := by decide +kernel
theorem d_Rules_worth_45 : decode b_Rules_worth 45 = .ok (.lload 6, 2) := by decide +kernel
theorem d_Rules_worth_47 : decode b_Rules_worth 47 = .ok (.lsub, 1) := by decide +kernel
theorem d_Rules_worth_48 : decode b_Rules_worth 48 = .ok (.lload 8, 2) := by decide +kernel
theorem d_Rules_worth_50 : decode b_Rules_worth 50 = .ok (.lsub, 1) := by decide +kernel
theorem d_Rules_worth_51 : decode b_Rules_worth 51 = .ok (.invokestatic 22, 3) := by decide +kernel
theorem d_Rules_worth_54 : decode b_Rules_worth 54 = .ok (.lreturn, 1) := by decide +kernel
