theorem d_Submissions_init_0 : decode b_Submissions_init 0 = .ok (.aload_n 0, 1) := by decide +kernel
theorem d_Submissions_init_1 : decode b_Submissions_init 1 = .ok (.invokespecial 3, 3) := by decide +kernel
theorem d_Submissions_init_4 : decode b_Submissions_init 4 = .ok (.aload_n 0, 1) := by decide +kernel
theorem d_Submissions_init_5 : decode b_Submissions_init 5 = .ok (.sipush 300, 3) := by decide +kernel
theorem d_Submissions_init_8 : decode b_Submissions_init 8 = .ok (.newarray .int, 2) := by decide +kernel
theorem d_Submissions_init_10 : decode b_Submissions_init 10 = .ok (.putfield 9, 3) := by decide +kernel
theorem d_Submissions_init_13 : decode b_Submissions_init 13 = .ok (.aload_n 0, 1) := by decide +kernel
theorem d_Submissions_init_14 : decode b_Submissions_init 14 = .ok (.sipush 300, 3) := by decide +kernel
theorem d_Submissions_init_17 : decode b_Submissions_init 17 = .ok (.newarray .int, 2) := by decide +kernel
theorem d_Submissions_init_19 : decode b_Submissions_init 19 = .ok (.putfield 15, 3) := by decide +kernel
theorem d_Submissions_init_22 : decode b_Submissions_init 22 = .ok (.aload_n 0, 1) := by decide +kernel
theorem d_Submissions_init_23 : decode b_Submissions_init 23 = .ok (.sipush 300, 3) := by decide +kernel
theorem d_Submissions_init_26 : decode b_Submissions_init 26 = .ok (.newarray .int, 2) := by decide +kernel
theorem d_Submissions_init_28 : decode b_Submissions_init 28 = .ok (.putfield 18, 3) := by decide +kernel
theorem d_Submissions_init_31 : decode b_Submissions_init 31 = .ok (.aload_n 0, 1) := by decide +kernel
theorem d_Submissions_init_32 : decode b_Submissions_init 32 = .ok (.sipush 300, 3) := by decide +kernel
theorem d_Submissions_init_35 : decode b_Submissions_init 35 = .ok (.newarray .boolean, 2) := by decide +kernel
theorem d_Submissions_init_37 : decode b_Submissions_init 37 = .ok (.putfield 21, 3) := by decide +kernel
theorem d_Submissions_init_40 : decode b_Submissions_init 40 = .ok (.aload_n 0, 1) := by decide +kernel
theorem d_Submissions_init_41 : decode b_Submissions_init 41 = .ok (.sipush 300, 3) := by decide +kernel
theorem d_Submissions_init_44 : decode b_Submissions_init 44 = .ok (.newarray .int, 2) := by decide +kernel
theorem d_Submissions_init_46 : decode b_Submissions_init 46 = .ok (.putfield 25, 3) := by decide +kernel
theorem d_Submissions_init_49 : decode b_Submissions_init 49 = .ok (.aload_n 0, 1) := by decide +kernel
theorem d_Submissions_init_50 : decode b_Submissions_init 50 = .ok (.sipush 300, 3) := by decide +kernel
theorem d_Submissions_init_53 : decode b_Submissions_init 53 = .ok (.newarray .int, 2) := by decide +kernel
theorem d_Submissions_init_55 : decode b_Submissions_init 55 = .ok (.putfield 28, 3) := by decide +kernel
theorem d_Submissions_init_58 : decode b_Submissions_init 58 = .ok (.return_, 1) := by decide +kernel
theorem d_Submissions_has_0 : decode b_Submissions_has 0 = .ok (.iload_n 1, 1) := by decide +kernel
theorem d_Submissions_has_1 : decode b_Submissions_has 1 = .ok (.ifCond .lt 15, 3) := by decide +kernel
theorem d_Submissions_has_4 : decode b_Submissions_has 4 = .ok (.iload_n 1, 1) := by decide +kernel
theorem d_Submissions_has_5 : decode b_Submissions_has 5 = .ok (.aload_n 0, 1) := by decide +kernel
theorem d_Submissions_has_6 : decode b_Submissions_has 6 = .ok (.getfield 31, 3) := by decide +kernel
theorem d_Submissions_has_9 : decode b_Submissions_has 9 = .ok (.if_icmp .ge 7, 3) := by decide +kernel
theorem d_Submissions_has_12 : decode b_Submissions_has 12 = .ok (.iconst 1, 1) := by decide +kernel
theorem d_Submissions_has_13 : decode b_Submissions_has 13 = .ok (.goto 4, 3) := by decide +kernel
theorem d_Submissions_has_16 : decode b_Submissions_has 16 = .ok (.iconst 0, 1) := by decide +kernel
theorem d_Submissions_has_17 : decode b_Submissions_has 17 = .ok (.ireturn, 1) := by decide +kernel
theorem d_Submissions_add_0 : decode b_Submissions_add 0 = .ok (.aload_n 0, 1) := by decide +kernel
theorem d_Submissions_add_1 : decode b_Submissions_add 1 = .ok (.getfield 31, 3) := by decide +kernel
theorem d_Submissions_add_4 : decode b_Submissions_add 4 = .ok (.sipush 300, 3) := by decide +kernel
theorem d_Submissions_add_7 : decode b_Submissions_add 7 = .ok (.if_icmp .lt 5, 3) := by decide +kernel
theorem d_Submissions_add_10 : decode b_Submissions_add 10 = .ok (.iconst (-1), 1) := by decide +kernel
theorem d_Submissions_add_11 : decode b_Submissions_add 11 = .ok (.ireturn, 1) := by decide +kernel
theorem d_Submissions_add_12 : decode b_Submissions_add 12 = .ok (.aload_n 0, 1) := by decide +kernel
theorem d_Submissions_add_13 : decode b_Submissions_add 13 = .ok (.getfield 9, 3) := by decide +kernel
theorem d_Submissions_add_16 : decode b_Submissions_add 16 = .ok (.aload_n 0, 1) := by decide +kernel
theorem d_Submissions_add_17 : decode b_Submissions_add 17 = .ok (.getfield 31, 3) := by decide +kernel
theorem d_Submissions_add_20 : decode b_Submissions_add 20 = .ok (.iload_n 1, 1) := by decide +kernel
theorem d_Submissions_add_21 : decode b_Submissions_add 21 = .ok (.iastore, 1) := by decide +kernel
theorem d_Submissions_add_22 : decode b_Submissions_add 22 = .ok (.aload_n 0, 1) := by decide +kernel
theorem d_Submissions_add_23 : decode b_Submissions_add 23 = .ok (.getfield 15, 3) := by decide +kernel
theorem d_Submissions_add_26 : decode b_Submissions_add 26 = .ok (.aload_n 0, 1) := by decide +kernel
theorem d_Submissions_add_27 : decode b_Submissions_add 27 = .ok (.getfield 31, 3) := by decide +kernel
theorem d_Submissions_add_30 : decode b_Submissions_add 30 = .ok (.iload_n 2, 1) := by decide +kernel
theorem d_Submissions_add_31 : decode b_Submissions_add 31 = .ok (.iastore, 1) := by decide +kernel
theorem d_Submissions_add_32 : decode b_Submissions_add 32 = .ok (.aload_n 0, 1) := by decide +kernel
theorem d_Submissions_add_33 : decode b_Submissions_add 33 = .ok (.getfield 18, 3) := by decide +kernel
theorem d_Submissions_add_36 : decode b_Submissions_add 36 = .ok (.aload_n 0, 1) := by decide +kernel
theorem d_Submissions_add_37 : decode b_Submissions_add 37 = .ok (.getfield 31, 3) := by decide +kernel
theorem d_Submissions_add_40 : decode b_Submissions_add 40 = .ok (.iload_n 3, 1) := by decide +kernel
theorem d_Submissions_add_41 : decode b_Submissions_add 41 = .ok (.iastore, 1) := by decide +kernel
theorem d_Submissions_add_42 : decode b_Submissions_add 42 = .ok (.aload_n 0, 1) := by decide +kernel
theorem d_Submissions_add_43 : decode b_Submissions_add 43 = .ok (.getfield 28, 3) := by decide +kernel
theorem d_Submissions_add_46 : decode b_Submissions_add 46 = .ok (.aload_n 0, 1) := by decide +kernel
theorem d_Submissions_add_47 : decode b_Submissions_add 47 = .ok (.getfield 31, 3) := by decide +kernel
theorem d_Submissions_add_50 : decode b_Submissions_add 50 = .ok (.iload 4, 2) := by decide +kernel
theorem d_Submissions_add_52 : decode b_Submissions_add 52 = .ok (.iastore, 1) := by decide +kernel
theorem d_Submissions_add_53 : decode b_Submissions_add 53 = .ok (.aload_n 0, 1) := by decide +kernel
theorem d_Submissions_add_54 : decode b_Submissions_add 54 = .ok (.getfield 21, 3) := by decide +kernel
theorem d_Submissions_add_57 : decode b_Submissions_add 57 = .ok (.aload_n 0, 1) := by decide +kernel
theorem d_Submissions_add_58 : decode b_Submissions_add 58 = .ok (.getfield 31, 3) := by decide +kernel
theorem d_Submissions_add_61 : decode b_Submissions_add 61 = .ok (.iload 5, 2) := by decide +kernel
theorem d_Submissions_add_63 : decode b_Submissions_add 63 = .ok (.bastore, 1) := by decide +kernel
theorem d_Submissions_add_64 : decode b_Submissions_add 64 = .ok (.aload_n 0, 1) := by decide +kernel
theorem d_Submissions_add_65 : decode b_Submissions_add 65 = .ok (.aload_n 0, 1) := by decide +kernel
theorem d_Submissions_add_66 : decode b_Submissions_add 66 = .ok (.getfield 31, 3) := by decide +kernel
theorem d_Submissions_add_69 : decode b_Submissions_add 69 = .ok (.invokevirtual 35, 3) := by decide +kernel
theorem d_Submissions_add_72 : decode b_Submissions_add 72 = .ok (.aload_n 0, 1) := by decide +kernel
theorem d_Submissions_add_73 : decode b_Submissions_add 73 = .ok (.dup, 1) := by decide +kernel
theorem d_Submissions_add_74 : decode b_Submissions_add 74 = .ok (.getfield 31, 3) := by decide +kernel
theorem d_Submissions_add_77 : decode b_Submissions_add 77 = .ok (.iconst 1, 1) := by decide +kernel
theorem d_Submissions_add_78 : decode b_Submissions_add 78 = .ok (.iadd, 1) := by decide +kernel
theorem d_Submissions_add_79 : decode b_Submissions_add 79 = .ok (.putfield 31, 3) := by decide +kernel
theorem d_Submissions_add_82 : decode b_Submissions_add 82 = .ok (.aload_n 0, 1) := by decide +kernel
theorem d_Submissions_add_83 : decode b_Submissions_add 83 = .ok (.getfield 31, 3) := by decide +kernel
theorem d_Submissions_add_86 : decode b_Submissions_add 86 = .ok (.iconst 1, 1) := by decide +kernel
theorem d_Submissions_add_87 : decode b_Submissions_add 87 = .ok (.isub, 1) := by decide +kernel
theorem d_Submissions_add_88 : decode b_Submissions_add 88 = .ok (.ireturn, 1) := by decide +kernel
theorem d_Submissions_putInTime_0 : decode b_Submissions_putInTime 0 = .ok (.iload_n 1, 1) := by decide +kernel
theorem d_Submissions_putInTime_1 : decode b_Submissions_putInTime 1 = .ok (.istore_n 2, 1) := by decide +kernel
theorem d_Submissions_putInTime_2 : decode b_Submissions_putInTime 2 = .ok (.iload_n 2, 1) := by decide +kernel
theorem d_Submissions_putInTime_3 : decode b_Submissions_putInTime 3 = .ok (.ifCond .le 45, 3) := by decide +kernel
theorem d_Submissions_putInTime_6 : decode b_Submissions_putInTime 6 = .ok (.aload_n 0, 1) := by decide +kernel
theorem d_Submissions_putInTime_7 : decode b_Submissions_putInTime 7 = .ok (.getfield 18, 3) := by decide +kernel
theorem d_Submissions_putInTime_10 : decode b_Submissions_putInTime 10 = .ok (.aload_n 0, 1) := by decide +kernel
theorem d_Submissions_putInTime_11 : decode b_Submissions_putInTime 11 = .ok (.getfield 25, 3) := by decide +kernel
theorem d_Submissions_putInTime_14 : decode b_Submissions_putInTime 14 = .ok (.iload_n 2, 1) := by decide +kernel
theorem d_Submissions_putInTime_15 : decode b_Submissions_putInTime 15 = .ok (.iconst 1, 1) := by decide +kernel
theorem d_Submissions_putInTime_16 : decode b_Submissions_putInTime 16 = .ok (.isub, 1) := by decide +kernel
theorem d_Submissions_putInTime_17 : decode b_Submissions_putInTime 17 = .ok (.iaload, 1) := by decide +kernel
theorem d_Submissions_putInTime_18 : decode b_Submissions_putInTime 18 = .ok (.iaload, 1) := by decide +kernel
theorem d_Submissions_putInTime_19 : decode b_Submissions_putInTime 19 = .ok (.aload_n 0, 1) := by decide +kernel
theorem d_Submissions_putInTime_20 : decode b_Submissions_putInTime 20 = .ok (.getfield 18, 3) := by decide +kernel
theorem d_Submissions_putInTime_23 : decode b_Submissions_putInTime 23 = .ok (.iload_n 1, 1) := by decide +kernel
theorem d_Submissions_putInTime_24 : decode b_Submissions_putInTime 24 = .ok (.iaload, 1) := by decide +kernel
theorem d_Submissions_putInTime_25 : decode b_Submissions_putInTime 25 = .ok (.if_icmp .le 23, 3) := by decide +kernel
theorem d_Submissions_putInTime_28 : decode b_Submissions_putInTime 28 = .ok (.aload_n 0, 1) := by decide +kernel
theorem d_Submissions_putInTime_29 : decode b_Submissions_putInTime 29 = .ok (.getfield 25, 3) := by decide +kernel
theorem d_Submissions_putInTime_32 : decode b_Submissions_putInTime 32 = .ok (.iload_n 2, 1) := by decide +kernel
theorem d_Submissions_putInTime_33 : decode b_Submissions_putInTime 33 = .ok (.aload_n 0, 1) := by decide +kernel
theorem d_Submissions_putInTime_34 : decode b_Submissions_putInTime 34 = .ok (.getfield 25, 3) := by decide +kernel
theorem d_Submissions_putInTime_37 : decode b_Submissions_putInTime 37 = .ok (.iload_n 2, 1) := by decide +kernel
theorem d_Submissions_putInTime_38 : decode b_Submissions_putInTime 38 = .ok (.iconst 1, 1) := by decide +kernel
theorem d_Submissions_putInTime_39 : decode b_Submissions_putInTime 39 = .ok (.isub, 1) := by decide +kernel
theorem d_Submissions_putInTime_40 : decode b_Submissions_putInTime 40 = .ok (.iaload, 1) := by decide +kernel
theorem d_Submissions_putInTime_41 : decode b_Submissions_putInTime 41 = .ok (.iastore, 1) := by decide +kernel
theorem d_Submissions_putInTime_42 : decode b_Submissions_putInTime 42 = .ok (.iinc 2 (-1), 3) := by decide +kernel
theorem d_Submissions_putInTime_45 : decode b_Submissions_putInTime 45 = .ok (.goto (-43), 3) := by decide +kernel
theorem d_Submissions_putInTime_48 : decode b_Submissions_putInTime 48 = .ok (.aload_n 0, 1) := by decide +kernel
theorem d_Submissions_putInTime_49 : decode b_Submissions_putInTime 49 = .ok (.getfield 25, 3) := by decide +kernel
theorem d_Submissions_putInTime_52 : decode b_Submissions_putInTime 52 = .ok (.iload_n 2, 1) := by decide +kernel
theorem d_Submissions_putInTime_53 : decode b_Submissions_putInTime 53 = .ok (.iload_n 1, 1) := by decide +kernel
theorem d_Submissions_putInTime_54 : decode b_Submissions_putInTime 54 = .ok (.iastore, 1) := by decide +kernel
theorem d_Submissions_putInTime_55 : decode b_Submissions_putInTime 55 = .ok (.return_, 1) := by decide +kernel
theorem d_Submissions_anyEarlier_0 : decode b_Submissions_anyEarlier 0 = .ok (.iconst 0, 1) := by decide +kernel
theorem d_Submissions_anyEarlier_1 : decode b_Submissions_anyEarlier 1 = .ok (.istore_n 3, 1) := by decide +kernel
theorem d_Submissions_anyEarlier_2 : decode b_Submissions_anyEarlier 2 = .ok (.iload_n 3, 1) := by decide +kernel
theorem d_Submissions_anyEarlier_3 : decode b_Submissions_anyEarlier 3 = .ok (.aload_n 0, 1) := by decide +kernel
theorem d_Submissions_anyEarlier_4 : decode b_Submissions_anyEarlier 4 = .ok (.getfield 31, 3) := by decide +kernel
theorem d_Submissions_anyEarlier_7 : decode b_Submissions_anyEarlier 7 = .ok (.if_icmp .ge 31, 3) := by decide +kernel
theorem d_Submissions_anyEarlier_10 : decode b_Submissions_anyEarlier 10 = .ok (.aload_n 0, 1) := by decide +kernel
theorem d_Submissions_anyEarlier_11 : decode b_Submissions_anyEarlier 11 = .ok (.getfield 9, 3) := by decide +kernel
theorem d_Submissions_anyEarlier_14 : decode b_Submissions_anyEarlier 14 = .ok (.iload_n 3, 1) := by decide +kernel
theorem d_Submissions_anyEarlier_15 : decode b_Submissions_anyEarlier 15 = .ok (.iaload, 1) := by decide +kernel
theorem d_Submissions_anyEarlier_16 : decode b_Submissions_anyEarlier 16 = .ok (.iload_n 1, 1) := by decide +kernel
theorem d_Submissions_anyEarlier_17 : decode b_Submissions_anyEarlier 17 = .ok (.if_icmp .ne 15, 3) := by decide +kernel
theorem d_Submissions_anyEarlier_20 : decode b_Submissions_anyEarlier 20 = .ok (.aload_n 0, 1) := by decide +kernel
theorem d_Submissions_anyEarlier_21 : decode b_Submissions_anyEarlier 21 = .ok (.getfield 18, 3) := by decide +kernel
theorem d_Submissions_anyEarlier_24 : decode b_Submissions_anyEarlier 24 = .ok (.iload_n 3, 1) := by decide +kernel
theorem d_Submissions_anyEarlier_25 : decode b_Submissions_anyEarlier 25 = .ok (.iaload, 1) := by decide +kernel
theorem d_Submissions_anyEarlier_26 : decode b_Submissions_anyEarlier 26 = .ok (.iload_n 2, 1) := by decide +kernel
theorem d_Submissions_anyEarlier_27 : decode b_Submissions_anyEarlier 27 = .ok (.if_icmp .ge 5, 3) := by decide +kernel
theorem d_Submissions_anyEarlier_30 : decode b_Submissions_anyEarlier 30 = .ok (.iconst 1, 1) := by decide +kernel
theorem d_Submissions_anyEarlier_31 : decode b_Submissions_anyEarlier 31 = .ok (.ireturn, 1) := by decide +kernel
theorem d_Submissions_anyEarlier_32 : decode b_Submissions_anyEarlier 32 = .ok (.iinc 3 1, 3) := by decide +kernel
theorem d_Submissions_anyEarlier_35 : decode b_Submissions_anyEarlier 35 = .ok (.goto (-33), 3) := by decide +kernel
theorem d_Submissions_anyEarlier_38 : decode b_Submissions_anyEarlier 38 = .ok (.iconst 0, 1) := by decide +kernel
theorem d_Submissions_anyEarlier_39 : decode b_Submissions_anyEarlier 39 = .ok (.ireturn, 1) := by decide +kernel
theorem d_Submissions_findTwins_0 : decode b_Submissions_findTwins 0 = .ok (.iconst 0, 1) := by decide +kernel
theorem d_Submissions_findTwins_1 : decode b_Submissions_findTwins 1 = .ok (.istore_n 3, 1) := by decide +kernel
theorem d_Submissions_findTwins_2 : decode b_Submissions_findTwins 2 = .ok (.iload_n 3, 1) := by decide +kernel
theorem d_Submissions_findTwins_3 : decode b_Submissions_findTwins 3 = .ok (.bipush 20, 2) := by decide +kernel
theorem d_Submissions_findTwins_5 : decode b_Submissions_findTwins 5 = .ok (.if_icmp .ge 13, 3) := by decide +kernel
theorem d_Submissions_findTwins_8 : decode b_Submissions_findTwins 8 = .ok (.aload_n 2, 1) := by decide +kernel
theorem d_Submissions_findTwins_9 : decode b_Submissions_findTwins 9 = .ok (.iload_n 3, 1) := by decide +kernel
theorem d_Submissions_findTwins_10 : decode b_Submissions_findTwins 10 = .ok (.iconst (-1), 1) := by decide +kernel
theorem d_Submissions_findTwins_11 : decode b_Submissions_findTwins 11 = .ok (.iastore, 1) := by decide +kernel
theorem d_Submissions_findTwins_12 : decode b_Submissions_findTwins 12 = .ok (.iinc 3 1, 3) := by decide +kernel
theorem d_Submissions_findTwins_15 : decode b_Submissions_findTwins 15 = .ok (.goto (-13), 3) := by decide +kernel
theorem d_Submissions_findTwins_18 : decode b_Submissions_findTwins 18 = .ok (.iconst 0, 1) := by decide +kernel
theorem d_Submissions_findTwins_19 : decode b_Submissions_findTwins 19 = .ok (.istore_n 3, 1) := by decide +kernel
theorem d_Submissions_findTwins_20 : decode b_Submissions_findTwins 20 = .ok (.iload_n 3, 1) := by decide +kernel
theorem d_Submissions_findTwins_21 : decode b_Submissions_findTwins 21 = .ok (.aload_n 0, 1) := by decide +kernel
theorem d_Submissions_findTwins_22 : decode b_Submissions_findTwins 22 = .ok (.getfield 31, 3) := by decide +kernel
theorem d_Submissions_findTwins_25 : decode b_Submissions_findTwins 25 = .ok (.if_icmp .ge 39, 3) := by decide +kernel
theorem d_Submissions_findTwins_28 : decode b_Submissions_findTwins 28 = .ok (.aload_n 2, 1) := by decide +kernel
theorem d_Submissions_findTwins_29 : decode b_Submissions_findTwins 29 = .ok (.aload_n 0, 1) := by decide +kernel
theorem d_Submissions_findTwins_30 : decode b_Submissions_findTwins 30 = .ok (.getfield 9, 3) := by decide +kernel
theorem d_Submissions_findTwins_33 : decode b_Submissions_findTwins 33 = .ok (.iload_n 3, 1) := by decide +kernel
theorem d_Submissions_findTwins_34 : decode b_Submissions_findTwins 34 = .ok (.iaload, 1) := by decide +kernel
theorem d_Submissions_findTwins_35 : decode b_Submissions_findTwins 35 = .ok (.iaload, 1) := by decide +kernel
theorem d_Submissions_findTwins_36 : decode b_Submissions_findTwins 36 = .ok (.iconst (-1), 1) := by decide +kernel
theorem d_Submissions_findTwins_37 : decode b_Submissions_findTwins 37 = .ok (.if_icmp .ne 21, 3) := by decide +kernel
theorem d_Submissions_findTwins_40 : decode b_Submissions_findTwins 40 = .ok (.aload_n 0, 1) := by decide +kernel
theorem d_Submissions_findTwins_41 : decode b_Submissions_findTwins 41 = .ok (.iload_n 1, 1) := by decide +kernel
theorem d_Submissions_findTwins_42 : decode b_Submissions_findTwins 42 = .ok (.iload_n 3, 1) := by decide +kernel
theorem d_Submissions_findTwins_43 : decode b_Submissions_findTwins 43 = .ok (.invokevirtual 39, 3) := by decide +kernel
theorem d_Submissions_findTwins_46 : decode b_Submissions_findTwins 46 = .ok (.ifCond .eq 12, 3) := by decide +kernel
theorem d_Submissions_findTwins_49 : decode b_Submissions_findTwins 49 = .ok (.aload_n 2, 1) := by decide +kernel
theorem d_Submissions_findTwins_50 : decode b_Submissions_findTwins 50 = .ok (.aload_n 0, 1) := by decide +kernel
theorem d_Submissions_findTwins_51 : decode b_Submissions_findTwins 51 = .ok (.getfield 9, 3) := by decide +kernel
theorem d_Submissions_findTwins_54 : decode b_Submissions_findTwins 54 = .ok (.iload_n 3, 1) := by decide +kernel
theorem d_Submissions_findTwins_55 : decode b_Submissions_findTwins 55 = .ok (.iaload, 1) := by decide +kernel
theorem d_Submissions_findTwins_56 : decode b_Submissions_findTwins 56 = .ok (.iload_n 3, 1) := by decide +kernel
theorem d_Submissions_findTwins_57 : decode b_Submissions_findTwins 57 = .ok (.iastore, 1) := by decide +kernel
theorem d_Submissions_findTwins_58 : decode b_Submissions_findTwins 58 = .ok (.iinc 3 1, 3) := by decide +kernel
theorem d_Submissions_findTwins_61 : decode b_Submissions_findTwins 61 = .ok (.goto (-41), 3) := by decide +kernel
theorem d_Submissions_findTwins_64 : decode b_Submissions_findTwins 64 = .ok (.return_, 1) := by decide +kernel
theorem d_Submissions_isTwin_0 : decode b_Submissions_isTwin 0 = .ok (.aload_n 0, 1) := by decide +kernel
theorem d_Submissions_isTwin_1 : decode b_Submissions_isTwin 1 = .ok (.getfield 21, 3) := by decide +kernel
theorem d_Submissions_isTwin_4 : decode b_Submissions_isTwin 4 = .ok (.iload_n 2, 1) := by decide +kernel
theorem d_Submissions_isTwin_5 : decode b_Submissions_isTwin 5 = .ok (.baload, 1) := by decide +kernel
theorem d_Submissions_isTwin_6 : decode b_Submissions_isTwin 6 = .ok (.ifCond .ne 37, 3) := by decide +kernel
theorem d_Submissions_isTwin_9 : decode b_Submissions_isTwin 9 = .ok (.aload_n 0, 1) := by decide +kernel
theorem d_Submissions_isTwin_10 : decode b_Submissions_isTwin 10 = .ok (.getfield 15, 3) := by decide +kernel
theorem d_Submissions_isTwin_13 : decode b_Submissions_isTwin 13 = .ok (.iload_n 2, 1) := by decide +kernel
theorem d_Submissions_isTwin_14 : decode b_Submissions_isTwin 14 = .ok (.iaload, 1) := by decide +kernel
theorem d_Submissions_isTwin_15 : decode b_Submissions_isTwin 15 = .ok (.aload_n 0, 1) := by decide +kernel
theorem d_Submissions_isTwin_16 : decode b_Submissions_isTwin 16 = .ok (.getfield 15, 3) := by decide +kernel
theorem d_Submissions_isTwin_19 : decode b_Submissions_isTwin 19 = .ok (.iload_n 1, 1) := by decide +kernel
theorem d_Submissions_isTwin_20 : decode b_Submissions_isTwin 20 = .ok (.iaload, 1) := by decide +kernel
theorem d_Submissions_isTwin_21 : decode b_Submissions_isTwin 21 = .ok (.if_icmp .ne 22, 3) := by decide +kernel
theorem d_Submissions_isTwin_24 : decode b_Submissions_isTwin 24 = .ok (.aload_n 0, 1) := by decide +kernel
theorem d_Submissions_isTwin_25 : decode b_Submissions_isTwin 25 = .ok (.getfield 28, 3) := by decide +kernel
theorem d_Submissions_isTwin_28 : decode b_Submissions_isTwin 28 = .ok (.iload_n 2, 1) := by decide +kernel
theorem d_Submissions_isTwin_29 : decode b_Submissions_isTwin 29 = .ok (.iaload, 1) := by decide +kernel
theorem d_Submissions_isTwin_30 : decode b_Submissions_isTwin 30 = .ok (.aload_n 0, 1) := by decide +kernel
theorem d_Submissions_isTwin_31 : decode b_Submissions_isTwin 31 = .ok (.getfield 28, 3) := by decide +kernel
theorem d_Submissions_isTwin_34 : decode b_Submissions_isTwin 34 = .ok (.iload_n 1, 1) := by decide +kernel
theorem d_Submissions_isTwin_35 : decode b_Submissions_isTwin 35 = .ok (.iaload, 1) := by decide +kernel
theorem d_Submissions_isTwin_36 : decode b_Submissions_isTwin 36 = .ok (.if_icmp .ne 7, 3) := by decide +kernel
theorem d_Submissions_isTwin_39 : decode b_Submissions_isTwin 39 = .ok (.iconst 1, 1) := by decide +kernel
theorem d_Submissions_isTwin_40 : decode b_Submissions_isTwin 40 = .ok (.goto 4, 3) := by decide +kernel
theorem d_Submissions_isTwin_43 : decode b_Submissions_isTwin 43 = .ok (.iconst 0, 1) := by decide +kernel
theorem d_Submissions_isTwin_44 : decode b_Submissions_isTwin 44 = .ok (.ireturn, 1) := by decide +kernel
theorem d_Submissions_secondsBetween_0 : decode b_Submissions_secondsBetween 0 = .ok (.aload_n 0, 1) := by decide +kernel
theorem d_Submissions_secondsBetween_1 : decode b_Submissions_secondsBetween 1 = .ok (.getfield 18, 3) := by decide +kernel
theorem d_Submissions_secondsBetween_4 : decode b_Submissions_secondsBetween 4 = .ok (.iload_n 1, 1) := by decide +kernel
theorem d_Submissions_secondsBetween_5 : decode b_Submissions_secondsBetween 5 = .ok (.iaload, 1) := by decide +kernel
theorem d_Submissions_secondsBetween_6 : decode b_Submissions_secondsBetween 6 = .ok (.aload_n 0, 1) := by decide +kernel
theorem d_Submissions_secondsBetween_7 : decode b_Submissions_secondsBetween 7 = .ok (.getfield 18, 3) := by decide +kernel
theorem d_Submissions_secondsBetween_10 : decode b_Submissions_secondsBetween 10 = .ok (.iload_n 2, 1) := by decide +kernel
theorem d_Submissions_secondsBetween_11 : decode b_Submissions_secondsBetween 11 = .ok (.iaload, 1) := by decide +kernel
theorem d_Submissions_secondsBetween_12 : decode b_Submissions_secondsBetween 12 = .ok (.isub, 1) := by decide +kernel
theorem d_Submissions_secondsBetween_13 : decode b_Submissions_secondsBetween 13 = .ok (.invokestatic 43, 3) := by decide +kernel
theorem d_Submissions_secondsBetween_16 : decode b_Submissions_secondsBetween 16 = .ok (.ireturn, 1) := by decide +kernel
theorem d_Submissions_tellPair_0 : decode b_Submissions_tellPair 0 = .ok (.iload_n 3, 1) := by decide +kernel
theorem d_Submissions_tellPair_1 : decode b_Submissions_tellPair 1 = .ok (.tableswitch 48 0 2 #[27, 34, 41], 27) := by decide +kernel
theorem d_Submissions_tellPair_28 : decode b_Submissions_tellPair 28 = .ok (.aload_n 0, 1) := by decide +kernel
theorem d_Submissions_tellPair_29 : decode b_Submissions_tellPair 29 = .ok (.getfield 9, 3) := by decide +kernel
theorem d_Submissions_tellPair_32 : decode b_Submissions_tellPair 32 = .ok (.iload_n 1, 1) := by decide +kernel
theorem d_Submissions_tellPair_33 : decode b_Submissions_tellPair 33 = .ok (.iaload, 1) := by decide +kernel
theorem d_Submissions_tellPair_34 : decode b_Submissions_tellPair 34 = .ok (.ireturn, 1) := by decide +kernel
theorem d_Submissions_tellPair_35 : decode b_Submissions_tellPair 35 = .ok (.aload_n 0, 1) := by decide +kernel
theorem d_Submissions_tellPair_36 : decode b_Submissions_tellPair 36 = .ok (.getfield 9, 3) := by decide +kernel
theorem d_Submissions_tellPair_39 : decode b_Submissions_tellPair 39 = .ok (.iload_n 2, 1) := by decide +kernel
theorem d_Submissions_tellPair_40 : decode b_Submissions_tellPair 40 = .ok (.iaload, 1) := by decide +kernel
theorem d_Submissions_tellPair_41 : decode b_Submissions_tellPair 41 = .ok (.ireturn, 1) := by decide +kernel
theorem d_Submissions_tellPair_42 : decode b_Submissions_tellPair 42 = .ok (.aload_n 0, 1) := by decide +kernel
theorem d_Submissions_tellPair_43 : decode b_Submissions_tellPair 43 = .ok (.getfield 15, 3) := by decide +kernel
theorem d_Submissions_tellPair_46 : decode b_Submissions_tellPair 46 = .ok (.iload_n 1, 1) := by decide +kernel
theorem d_Submissions_tellPair_47 : decode b_Submissions_tellPair 47 = .ok (.iaload, 1) := by decide +kernel
theorem d_Submissions_tellPair_48 : decode b_Submissions_tellPair 48 = .ok (.ireturn, 1) := by decide +kernel
theorem d_Submissions_tellPair_49 : decode b_Submissions_tellPair 49 = .ok (.aload_n 0, 1) := by decide +kernel
theorem d_Submissions_tellPair_50 : decode b_Submissions_tellPair 50 = .ok (.iload_n 1, 1) := by decide +kernel
theorem d_Submissions_tellPair_51 : decode b_Submissions_tellPair 51 = .ok (.iload_n 2, 1) := by decide +kernel
theorem d_Submissions_tellPair_52 : decode b_Submissions_tellPair 52 = .ok (.invokevirtual 49, 3) := by decide +kernel
theorem d_Submissions_tellPair_55 : decode b_Submissions_tellPair 55 = .ok (.ireturn, 1) := by decide +kernel
