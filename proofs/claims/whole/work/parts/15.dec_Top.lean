theorem d_Top_init_0 : decode b_Top_init 0 = .ok (.aload_n 0, 1) := by decide +kernel
theorem d_Top_init_1 : decode b_Top_init 1 = .ok (.invokespecial 1, 3) := by decide +kernel
theorem d_Top_init_4 : decode b_Top_init 4 = .ok (.aload_n 0, 1) := by decide +kernel
theorem d_Top_init_5 : decode b_Top_init 5 = .ok (.new 7, 3) := by decide +kernel
theorem d_Top_init_8 : decode b_Top_init 8 = .ok (.dup, 1) := by decide +kernel
theorem d_Top_init_9 : decode b_Top_init 9 = .ok (.invokespecial 9, 3) := by decide +kernel
theorem d_Top_init_12 : decode b_Top_init 12 = .ok (.putfield 10, 3) := by decide +kernel
theorem d_Top_init_15 : decode b_Top_init 15 = .ok (.aload_n 0, 1) := by decide +kernel
theorem d_Top_init_16 : decode b_Top_init 16 = .ok (.new 16, 3) := by decide +kernel
theorem d_Top_init_19 : decode b_Top_init 19 = .ok (.dup, 1) := by decide +kernel
theorem d_Top_init_20 : decode b_Top_init 20 = .ok (.invokespecial 18, 3) := by decide +kernel
theorem d_Top_init_23 : decode b_Top_init 23 = .ok (.putfield 19, 3) := by decide +kernel
theorem d_Top_init_26 : decode b_Top_init 26 = .ok (.aload_n 0, 1) := by decide +kernel
theorem d_Top_init_27 : decode b_Top_init 27 = .ok (.new 23, 3) := by decide +kernel
theorem d_Top_init_30 : decode b_Top_init 30 = .ok (.dup, 1) := by decide +kernel
theorem d_Top_init_31 : decode b_Top_init 31 = .ok (.invokespecial 25, 3) := by decide +kernel
theorem d_Top_init_34 : decode b_Top_init 34 = .ok (.putfield 26, 3) := by decide +kernel
theorem d_Top_init_37 : decode b_Top_init 37 = .ok (.aload_n 0, 1) := by decide +kernel
theorem d_Top_init_38 : decode b_Top_init 38 = .ok (.new 30, 3) := by decide +kernel
theorem d_Top_init_41 : decode b_Top_init 41 = .ok (.dup, 1) := by decide +kernel
theorem d_Top_init_42 : decode b_Top_init 42 = .ok (.invokespecial 32, 3) := by decide +kernel
theorem d_Top_init_45 : decode b_Top_init 45 = .ok (.putfield 33, 3) := by decide +kernel
theorem d_Top_init_48 : decode b_Top_init 48 = .ok (.aload_n 0, 1) := by decide +kernel
theorem d_Top_init_49 : decode b_Top_init 49 = .ok (.new 37, 3) := by decide +kernel
theorem d_Top_init_52 : decode b_Top_init 52 = .ok (.dup, 1) := by decide +kernel
theorem d_Top_init_53 : decode b_Top_init 53 = .ok (.invokespecial 39, 3) := by decide +kernel
theorem d_Top_init_56 : decode b_Top_init 56 = .ok (.putfield 40, 3) := by decide +kernel
theorem d_Top_init_59 : decode b_Top_init 59 = .ok (.aload_n 0, 1) := by decide +kernel
theorem d_Top_init_60 : decode b_Top_init 60 = .ok (.bipush 20, 2) := by decide +kernel
theorem d_Top_init_62 : decode b_Top_init 62 = .ok (.newarray .int, 2) := by decide +kernel
theorem d_Top_init_64 : decode b_Top_init 64 = .ok (.putfield 44, 3) := by decide +kernel
theorem d_Top_init_67 : decode b_Top_init 67 = .ok (.aload_n 0, 1) := by decide +kernel
theorem d_Top_init_68 : decode b_Top_init 68 = .ok (.bipush 20, 2) := by decide +kernel
theorem d_Top_init_70 : decode b_Top_init 70 = .ok (.newarray .boolean, 2) := by decide +kernel
theorem d_Top_init_72 : decode b_Top_init 72 = .ok (.putfield 48, 3) := by decide +kernel
theorem d_Top_init_75 : decode b_Top_init 75 = .ok (.aload_n 0, 1) := by decide +kernel
theorem d_Top_init_76 : decode b_Top_init 76 = .ok (.bipush 20, 2) := by decide +kernel
theorem d_Top_init_78 : decode b_Top_init 78 = .ok (.newarray .long, 2) := by decide +kernel
theorem d_Top_init_80 : decode b_Top_init 80 = .ok (.putfield 52, 3) := by decide +kernel
theorem d_Top_init_83 : decode b_Top_init 83 = .ok (.aload_n 0, 1) := by decide +kernel
theorem d_Top_init_84 : decode b_Top_init 84 = .ok (.bipush 20, 2) := by decide +kernel
theorem d_Top_init_86 : decode b_Top_init 86 = .ok (.newarray .int, 2) := by decide +kernel
theorem d_Top_init_88 : decode b_Top_init 88 = .ok (.putfield 56, 3) := by decide +kernel
theorem d_Top_init_91 : decode b_Top_init 91 = .ok (.return_, 1) := by decide +kernel
theorem d_Top_puzzle_0 : decode b_Top_puzzle 0 = .ok (.aload_n 0, 1) := by decide +kernel
theorem d_Top_puzzle_1 : decode b_Top_puzzle 1 = .ok (.getfield 10, 3) := by decide +kernel
theorem d_Top_puzzle_4 : decode b_Top_puzzle 4 = .ok (.iload_n 1, 1) := by decide +kernel
theorem d_Top_puzzle_5 : decode b_Top_puzzle 5 = .ok (.invokevirtual 59, 3) := by decide +kernel
theorem d_Top_puzzle_8 : decode b_Top_puzzle 8 = .ok (.ireturn, 1) := by decide +kernel
theorem d_Top_person_0 : decode b_Top_person 0 = .ok (.aload_n 0, 1) := by decide +kernel
theorem d_Top_person_1 : decode b_Top_person 1 = .ok (.getfield 19, 3) := by decide +kernel
theorem d_Top_person_4 : decode b_Top_person 4 = .ok (.invokevirtual 63, 3) := by decide +kernel
theorem d_Top_person_7 : decode b_Top_person 7 = .ok (.ireturn, 1) := by decide +kernel
theorem d_Top_unit_0 : decode b_Top_unit 0 = .ok (.aload_n 0, 1) := by decide +kernel
theorem d_Top_unit_1 : decode b_Top_unit 1 = .ok (.getfield 33, 3) := by decide +kernel
theorem d_Top_unit_4 : decode b_Top_unit 4 = .ok (.iload_n 1, 1) := by decide +kernel
theorem d_Top_unit_5 : decode b_Top_unit 5 = .ok (.invokevirtual 66, 3) := by decide +kernel
theorem d_Top_unit_8 : decode b_Top_unit 8 = .ok (.ireturn, 1) := by decide +kernel
theorem d_Top_rules_0 : decode b_Top_rules 0 = .ok (.aload_n 0, 1) := by decide +kernel
theorem d_Top_rules_1 : decode b_Top_rules 1 = .ok (.getfield 33, 3) := by decide +kernel
theorem d_Top_rules_4 : decode b_Top_rules 4 = .ok (.aload_n 0, 1) := by decide +kernel
theorem d_Top_rules_5 : decode b_Top_rules 5 = .ok (.getfield 40, 3) := by decide +kernel
theorem d_Top_rules_8 : decode b_Top_rules 8 = .ok (.invokevirtual 69, 3) := by decide +kernel
theorem d_Top_rules_11 : decode b_Top_rules 11 = .ok (.istore_n 1, 1) := by decide +kernel
theorem d_Top_rules_12 : decode b_Top_rules 12 = .ok (.aload_n 0, 1) := by decide +kernel
theorem d_Top_rules_13 : decode b_Top_rules 13 = .ok (.getfield 33, 3) := by decide +kernel
theorem d_Top_rules_16 : decode b_Top_rules 16 = .ok (.invokevirtual 73, 3) := by decide +kernel
theorem d_Top_rules_19 : decode b_Top_rules 19 = .ok (.iload_n 1, 1) := by decide +kernel
theorem d_Top_rules_20 : decode b_Top_rules 20 = .ok (.ireturn, 1) := by decide +kernel
theorem d_Top_start_0 : decode b_Top_start 0 = .ok (.aload_n 0, 1) := by decide +kernel
theorem d_Top_start_1 : decode b_Top_start 1 = .ok (.getfield 19, 3) := by decide +kernel
theorem d_Top_start_4 : decode b_Top_start 4 = .ok (.iload_n 1, 1) := by decide +kernel
theorem d_Top_start_5 : decode b_Top_start 5 = .ok (.invokevirtual 76, 3) := by decide +kernel
theorem d_Top_start_8 : decode b_Top_start 8 = .ok (.ifCond .eq 13, 3) := by decide +kernel
theorem d_Top_start_11 : decode b_Top_start 11 = .ok (.iload_n 2, 1) := by decide +kernel
theorem d_Top_start_12 : decode b_Top_start 12 = .ok (.ifCond .lt 9, 3) := by decide +kernel
theorem d_Top_start_15 : decode b_Top_start 15 = .ok (.iload_n 2, 1) := by decide +kernel
theorem d_Top_start_16 : decode b_Top_start 16 = .ok (.ldc 79, 2) := by decide +kernel
theorem d_Top_start_18 : decode b_Top_start 18 = .ok (.if_icmp .le 5, 3) := by decide +kernel
theorem d_Top_start_21 : decode b_Top_start 21 = .ok (.iconst 0, 1) := by decide +kernel
theorem d_Top_start_22 : decode b_Top_start 22 = .ok (.ireturn, 1) := by decide +kernel
theorem d_Top_start_23 : decode b_Top_start 23 = .ok (.aload_n 0, 1) := by decide +kernel
theorem d_Top_start_24 : decode b_Top_start 24 = .ok (.getfield 26, 3) := by decide +kernel
theorem d_Top_start_27 : decode b_Top_start 27 = .ok (.iload_n 1, 1) := by decide +kernel
theorem d_Top_start_28 : decode b_Top_start 28 = .ok (.iload_n 2, 1) := by decide +kernel
theorem d_Top_start_29 : decode b_Top_start 29 = .ok (.invokevirtual 80, 3) := by decide +kernel
theorem d_Top_start_32 : decode b_Top_start 32 = .ok (.ifCond .eq 5, 3) := by decide +kernel
theorem d_Top_start_35 : decode b_Top_start 35 = .ok (.iconst 0, 1) := by decide +kernel
theorem d_Top_start_36 : decode b_Top_start 36 = .ok (.ireturn, 1) := by decide +kernel
theorem d_Top_start_37 : decode b_Top_start 37 = .ok (.aload_n 0, 1) := by decide +kernel
theorem d_Top_start_38 : decode b_Top_start 38 = .ok (.getfield 19, 3) := by decide +kernel
theorem d_Top_start_41 : decode b_Top_start 41 = .ok (.getfield 84, 3) := by decide +kernel
theorem d_Top_start_44 : decode b_Top_start 44 = .ok (.iload_n 1, 1) := by decide +kernel
theorem d_Top_start_45 : decode b_Top_start 45 = .ok (.iload_n 2, 1) := by decide +kernel
theorem d_Top_start_46 : decode b_Top_start 46 = .ok (.iastore, 1) := by decide +kernel
theorem d_Top_start_47 : decode b_Top_start 47 = .ok (.iconst 1, 1) := by decide +kernel
theorem d_Top_start_48 : decode b_Top_start 48 = .ok (.ireturn, 1) := by decide +kernel
theorem d_Top_submit_0 : decode b_Top_submit 0 = .ok (.aload_n 0, 1) := by decide +kernel
theorem d_Top_submit_1 : decode b_Top_submit 1 = .ok (.getfield 19, 3) := by decide +kernel
theorem d_Top_submit_4 : decode b_Top_submit 4 = .ok (.iload_n 1, 1) := by decide +kernel
theorem d_Top_submit_5 : decode b_Top_submit 5 = .ok (.invokevirtual 76, 3) := by decide +kernel
theorem d_Top_submit_8 : decode b_Top_submit 8 = .ok (.ifCond .eq 19, 3) := by decide +kernel
theorem d_Top_submit_11 : decode b_Top_submit 11 = .ok (.aload_n 0, 1) := by decide +kernel
theorem d_Top_submit_12 : decode b_Top_submit 12 = .ok (.getfield 10, 3) := by decide +kernel
theorem d_Top_submit_15 : decode b_Top_submit 15 = .ok (.iload_n 2, 1) := by decide +kernel
theorem d_Top_submit_16 : decode b_Top_submit 16 = .ok (.invokevirtual 87, 3) := by decide +kernel
theorem d_Top_submit_19 : decode b_Top_submit 19 = .ok (.ifCond .eq 8, 3) := by decide +kernel
theorem d_Top_submit_22 : decode b_Top_submit 22 = .ok (.iload 4, 2) := by decide +kernel
theorem d_Top_submit_24 : decode b_Top_submit 24 = .ok (.ifCond .ge 5, 3) := by decide +kernel
theorem d_Top_submit_27 : decode b_Top_submit 27 = .ok (.iconst (-1), 1) := by decide +kernel
theorem d_Top_submit_28 : decode b_Top_submit 28 = .ok (.ireturn, 1) := by decide +kernel
theorem d_Top_submit_29 : decode b_Top_submit 29 = .ok (.aload_n 0, 1) := by decide +kernel
theorem d_Top_submit_30 : decode b_Top_submit 30 = .ok (.getfield 19, 3) := by decide +kernel
theorem d_Top_submit_33 : decode b_Top_submit 33 = .ok (.getfield 84, 3) := by decide +kernel
theorem d_Top_submit_36 : decode b_Top_submit 36 = .ok (.iload_n 1, 1) := by decide +kernel
theorem d_Top_submit_37 : decode b_Top_submit 37 = .ok (.iaload, 1) := by decide +kernel
theorem d_Top_submit_38 : decode b_Top_submit 38 = .ok (.istore 6, 2) := by decide +kernel
theorem d_Top_submit_40 : decode b_Top_submit 40 = .ok (.iload 6, 2) := by decide +kernel
theorem d_Top_submit_42 : decode b_Top_submit 42 = .ok (.iconst (-1), 1) := by decide +kernel
theorem d_Top_submit_43 : decode b_Top_submit 43 = .ok (.if_icmp .eq 15, 3) := by decide +kernel
theorem d_Top_submit_46 : decode b_Top_submit 46 = .ok (.iload_n 3, 1) := by decide +kernel
theorem d_Top_submit_47 : decode b_Top_submit 47 = .ok (.iload 6, 2) := by decide +kernel
theorem d_Top_submit_49 : decode b_Top_submit 49 = .ok (.if_icmp .lt 9, 3) := by decide +kernel
theorem d_Top_submit_52 : decode b_Top_submit 52 = .ok (.iload_n 3, 1) := by decide +kernel
theorem d_Top_submit_53 : decode b_Top_submit 53 = .ok (.ldc 79, 2) := by decide +kernel
theorem d_Top_submit_55 : decode b_Top_submit 55 = .ok (.if_icmp .le 5, 3) := by decide +kernel
theorem d_Top_submit_58 : decode b_Top_submit 58 = .ok (.iconst (-1), 1) := by decide +kernel
theorem d_Top_submit_59 : decode b_Top_submit 59 = .ok (.ireturn, 1) := by decide +kernel
theorem d_Top_submit_60 : decode b_Top_submit 60 = .ok (.aload_n 0, 1) := by decide +kernel
theorem d_Top_submit_61 : decode b_Top_submit 61 = .ok (.getfield 26, 3) := by decide +kernel
theorem d_Top_submit_64 : decode b_Top_submit 64 = .ok (.iload_n 1, 1) := by decide +kernel
theorem d_Top_submit_65 : decode b_Top_submit 65 = .ok (.iload_n 2, 1) := by decide +kernel
theorem d_Top_submit_66 : decode b_Top_submit 66 = .ok (.iload_n 3, 1) := by decide +kernel
theorem d_Top_submit_67 : decode b_Top_submit 67 = .ok (.iload 4, 2) := by decide +kernel
theorem d_Top_submit_69 : decode b_Top_submit 69 = .ok (.iload 5, 2) := by decide +kernel
theorem d_Top_submit_71 : decode b_Top_submit 71 = .ok (.invokevirtual 88, 3) := by decide +kernel
theorem d_Top_submit_74 : decode b_Top_submit 74 = .ok (.ireturn, 1) := by decide +kernel
theorem d_Top_correct_0 : decode b_Top_correct 0 = .ok (.aload_n 0, 1) := by decide +kernel
theorem d_Top_correct_1 : decode b_Top_correct 1 = .ok (.getfield 26, 3) := by decide +kernel
theorem d_Top_correct_4 : decode b_Top_correct 4 = .ok (.iload_n 1, 1) := by decide +kernel
theorem d_Top_correct_5 : decode b_Top_correct 5 = .ok (.invokevirtual 91, 3) := by decide +kernel
theorem d_Top_correct_8 : decode b_Top_correct 8 = .ok (.ifCond .eq 16, 3) := by decide +kernel
theorem d_Top_correct_11 : decode b_Top_correct 11 = .ok (.aload_n 0, 1) := by decide +kernel
theorem d_Top_correct_12 : decode b_Top_correct 12 = .ok (.getfield 26, 3) := by decide +kernel
theorem d_Top_correct_15 : decode b_Top_correct 15 = .ok (.getfield 92, 3) := by decide +kernel
theorem d_Top_correct_18 : decode b_Top_correct 18 = .ok (.iload_n 1, 1) := by decide +kernel
theorem d_Top_correct_19 : decode b_Top_correct 19 = .ok (.baload, 1) := by decide +kernel
theorem d_Top_correct_20 : decode b_Top_correct 20 = .ok (.iload_n 2, 1) := by decide +kernel
theorem d_Top_correct_21 : decode b_Top_correct 21 = .ok (.if_icmp .ne 5, 3) := by decide +kernel
theorem d_Top_correct_24 : decode b_Top_correct 24 = .ok (.iconst 0, 1) := by decide +kernel
theorem d_Top_correct_25 : decode b_Top_correct 25 = .ok (.ireturn, 1) := by decide +kernel
theorem d_Top_correct_26 : decode b_Top_correct 26 = .ok (.aload_n 0, 1) := by decide +kernel
theorem d_Top_correct_27 : decode b_Top_correct 27 = .ok (.getfield 26, 3) := by decide +kernel
theorem d_Top_correct_30 : decode b_Top_correct 30 = .ok (.getfield 92, 3) := by decide +kernel
theorem d_Top_correct_33 : decode b_Top_correct 33 = .ok (.iload_n 1, 1) := by decide +kernel
theorem d_Top_correct_34 : decode b_Top_correct 34 = .ok (.iload_n 2, 1) := by decide +kernel
theorem d_Top_correct_35 : decode b_Top_correct 35 = .ok (.bastore, 1) := by decide +kernel
theorem d_Top_correct_36 : decode b_Top_correct 36 = .ok (.iconst 1, 1) := by decide +kernel
theorem d_Top_correct_37 : decode b_Top_correct 37 = .ok (.ireturn, 1) := by decide +kernel
theorem d_Top_late_0 : decode b_Top_late 0 = .ok (.aload_n 0, 1) := by decide +kernel
theorem d_Top_late_1 : decode b_Top_late 1 = .ok (.getfield 26, 3) := by decide +kernel
theorem d_Top_late_4 : decode b_Top_late 4 = .ok (.iload_n 1, 1) := by decide +kernel
theorem d_Top_late_5 : decode b_Top_late 5 = .ok (.invokevirtual 91, 3) := by decide +kernel
theorem d_Top_late_8 : decode b_Top_late 8 = .ok (.ifCond .eq 22, 3) := by decide +kernel
theorem d_Top_late_11 : decode b_Top_late 11 = .ok (.aload_n 0, 1) := by decide +kernel
theorem d_Top_late_12 : decode b_Top_late 12 = .ok (.getfield 40, 3) := by decide +kernel
theorem d_Top_late_15 : decode b_Top_late 15 = .ok (.aload_n 0, 1) := by decide +kernel
theorem d_Top_late_16 : decode b_Top_late 16 = .ok (.iload_n 1, 1) := by decide +kernel
theorem d_Top_late_17 : decode b_Top_late 17 = .ok (.invokevirtual 95, 3) := by decide +kernel
theorem d_Top_late_20 : decode b_Top_late 20 = .ok (.invokevirtual 98, 3) := by decide +kernel
theorem d_Top_late_23 : decode b_Top_late 23 = .ok (.ifCond .eq 7, 3) := by decide +kernel
theorem d_Top_late_26 : decode b_Top_late 26 = .ok (.iconst 1, 1) := by decide +kernel
theorem d_Top_late_27 : decode b_Top_late 27 = .ok (.goto 4, 3) := by decide +kernel
theorem d_Top_late_30 : decode b_Top_late 30 = .ok (.iconst 0, 1) := by decide +kernel
theorem d_Top_late_31 : decode b_Top_late 31 = .ok (.ireturn, 1) := by decide +kernel
theorem d_Top_score_0 : decode b_Top_score 0 = .ok (.aload_n 0, 1) := by decide +kernel
theorem d_Top_score_1 : decode b_Top_score 1 = .ok (.getfield 19, 3) := by decide +kernel
theorem d_Top_score_4 : decode b_Top_score 4 = .ok (.iload_n 1, 1) := by decide +kernel
theorem d_Top_score_5 : decode b_Top_score 5 = .ok (.invokevirtual 76, 3) := by decide +kernel
theorem d_Top_score_8 : decode b_Top_score 8 = .ok (.ifCond .eq 12, 3) := by decide +kernel
theorem d_Top_score_11 : decode b_Top_score 11 = .ok (.iload_n 2, 1) := by decide +kernel
theorem d_Top_score_12 : decode b_Top_score 12 = .ok (.ifCond .lt 8, 3) := by decide +kernel
theorem d_Top_score_15 : decode b_Top_score 15 = .ok (.iload_n 2, 1) := by decide +kernel
theorem d_Top_score_16 : decode b_Top_score 16 = .ok (.iconst 3, 1) := by decide +kernel
theorem d_Top_score_17 : decode b_Top_score 17 = .ok (.if_icmp .le 7, 3) := by decide +kernel
theorem d_Top_score_20 : decode b_Top_score 20 = .ok (.ldc2_w 101, 3) := by decide +kernel
theorem d_Top_score_23 : decode b_Top_score 23 = .ok (.lreturn, 1) := by decide +kernel
theorem d_Top_score_24 : decode b_Top_score 24 = .ok (.iload_n 2, 1) := by decide +kernel
theorem d_Top_score_25 : decode b_Top_score 25 = .ok (.iconst 3, 1) := by decide +kernel
theorem d_Top_score_26 : decode b_Top_score 26 = .ok (.if_icmp .ne 24, 3) := by decide +kernel
theorem d_Top_score_29 : decode b_Top_score 29 = .ok (.aload_n 0, 1) := by decide +kernel
theorem d_Top_score_30 : decode b_Top_score 30 = .ok (.invokevirtual 103, 3) := by decide +kernel
theorem d_Top_score_33 : decode b_Top_score 33 = .ok (.aload_n 0, 1) := by decide +kernel
theorem d_Top_score_34 : decode b_Top_score 34 = .ok (.getfield 19, 3) := by decide +kernel
theorem d_Top_score_37 : decode b_Top_score 37 = .ok (.iload_n 1, 1) := by decide +kernel
theorem d_Top_score_38 : decode b_Top_score 38 = .ok (.aload_n 0, 1) := by decide +kernel
theorem d_Top_score_39 : decode b_Top_score 39 = .ok (.getfield 40, 3) := by decide +kernel
theorem d_Top_score_42 : decode b_Top_score 42 = .ok (.invokevirtual 106, 3) := by decide +kernel
theorem d_Top_score_45 : decode b_Top_score 45 = .ok (.invokevirtual 110, 3) := by decide +kernel
theorem d_Top_score_48 : decode b_Top_score 48 = .ok (.i2l, 1) := by decide +kernel
theorem d_Top_score_49 : decode b_Top_score 49 = .ok (.lreturn, 1) := by decide +kernel
theorem d_Top_score_50 : decode b_Top_score 50 = .ok (.aload_n 0, 1) := by decide +kernel
theorem d_Top_score_51 : decode b_Top_score 51 = .ok (.iload_n 1, 1) := by decide +kernel
theorem d_Top_score_52 : decode b_Top_score 52 = .ok (.invokevirtual 114, 3) := by decide +kernel
theorem d_Top_score_55 : decode b_Top_score 55 = .ok (.iload_n 2, 1) := by decide +kernel
theorem d_Top_score_56 : decode b_Top_score 56 = .ok (.ifCond .ne 13, 3) := by decide +kernel
theorem d_Top_score_59 : decode b_Top_score 59 = .ok (.aload_n 0, 1) := by decide +kernel
theorem d_Top_score_60 : decode b_Top_score 60 = .ok (.getfield 19, 3) := by decide +kernel
theorem d_Top_score_63 : decode b_Top_score 63 = .ok (.getfield 118, 3) := by decide +kernel
theorem d_Top_score_66 : decode b_Top_score 66 = .ok (.iload_n 1, 1) := by decide +kernel
theorem d_Top_score_67 : decode b_Top_score 67 = .ok (.laload, 1) := by decide +kernel
theorem d_Top_score_68 : decode b_Top_score 68 = .ok (.lreturn, 1) := by decide +kernel
theorem d_Top_score_69 : decode b_Top_score 69 = .ok (.iload_n 2, 1) := by decide +kernel
theorem d_Top_score_70 : decode b_Top_score 70 = .ok (.iconst 1, 1) := by decide +kernel
theorem d_Top_score_71 : decode b_Top_score 71 = .ok (.if_icmp .ne 15, 3) := by decide +kernel
theorem d_Top_score_74 : decode b_Top_score 74 = .ok (.aload_n 0, 1) := by decide +kernel
theorem d_Top_score_75 : decode b_Top_score 75 = .ok (.getfield 19, 3) := by decide +kernel
theorem d_Top_score_78 : decode b_Top_score 78 = .ok (.getfield 121, 3) := by decide +kernel
theorem d_Top_score_81 : decode b_Top_score 81 = .ok (.iload_n 1, 1) := by decide +kernel
theorem d_Top_score_82 : decode b_Top_score 82 = .ok (.laload, 1) := by decide +kernel
theorem d_Top_score_83 : decode b_Top_score 83 = .ok (.goto 13, 3) := by decide +kernel
theorem d_Top_score_86 : decode b_Top_score 86 = .ok (.aload_n 0, 1) := by decide +kernel
theorem d_Top_score_87 : decode b_Top_score 87 = .ok (.getfield 19, 3) := by decide +kernel
theorem d_Top_score_90 : decode b_Top_score 90 = .ok (.getfield 124, 3) := by decide +kernel
theorem d_Top_score_93 : decode b_Top_score 93 = .ok (.iload_n 1, 1) := by decide +kernel
theorem d_Top_score_94 : decode b_Top_score 94 = .ok (.iaload, 1) := by decide +kernel
theorem d_Top_score_95 : decode b_Top_score 95 = .ok (.i2l, 1) := by decide +kernel
theorem d_Top_score_96 : decode b_Top_score 96 = .ok (.lreturn, 1) := by decide +kernel
theorem d_Top_points_0 : decode b_Top_points 0 = .ok (.aload_n 0, 1) := by decide +kernel
theorem d_Top_points_1 : decode b_Top_points 1 = .ok (.getfield 19, 3) := by decide +kernel
theorem d_Top_points_4 : decode b_Top_points 4 = .ok (.iload_n 1, 1) := by decide +kernel
theorem d_Top_points_5 : decode b_Top_points 5 = .ok (.invokevirtual 76, 3) := by decide +kernel
theorem d_Top_points_8 : decode b_Top_points 8 = .ok (.ifCond .eq 14, 3) := by decide +kernel
theorem d_Top_points_11 : decode b_Top_points 11 = .ok (.aload_n 0, 1) := by decide +kernel
theorem d_Top_points_12 : decode b_Top_points 12 = .ok (.getfield 10, 3) := by decide +kernel
theorem d_Top_points_15 : decode b_Top_points 15 = .ok (.iload_n 2, 1) := by decide +kernel
theorem d_Top_points_16 : decode b_Top_points 16 = .ok (.invokevirtual 87, 3) := by decide +kernel
theorem d_Top_points_19 : decode b_Top_points 19 = .ok (.ifCond .ne 7, 3) := by decide +kernel
theorem d_Top_points_22 : decode b_Top_points 22 = .ok (.ldc2_w 101, 3) := by decide +kernel
theorem d_Top_points_25 : decode b_Top_points 25 = .ok (.lreturn, 1) := by decide +kernel
theorem d_Top_points_26 : decode b_Top_points 26 = .ok (.aload_n 0, 1) := by decide +kernel
theorem d_Top_points_27 : decode b_Top_points 27 = .ok (.iload_n 1, 1) := by decide +kernel
theorem d_Top_points_28 : decode b_Top_points 28 = .ok (.invokevirtual 114, 3) := by decide +kernel
theorem d_Top_points_31 : decode b_Top_points 31 = .ok (.aload_n 0, 1) := by decide +kernel
theorem d_Top_points_32 : decode b_Top_points 32 = .ok (.getfield 52, 3) := by decide +kernel
theorem d_Top_points_35 : decode b_Top_points 35 = .ok (.iload_n 2, 1) := by decide +kernel
theorem d_Top_points_36 : decode b_Top_points 36 = .ok (.laload, 1) := by decide +kernel
theorem d_Top_points_37 : decode b_Top_points 37 = .ok (.lreturn, 1) := by decide +kernel
theorem d_Top_place_0 : decode b_Top_place 0 = .ok (.aload_n 0, 1) := by decide +kernel
theorem d_Top_place_1 : decode b_Top_place 1 = .ok (.getfield 19, 3) := by decide +kernel
theorem d_Top_place_4 : decode b_Top_place 4 = .ok (.iload_n 1, 1) := by decide +kernel
theorem d_Top_place_5 : decode b_Top_place 5 = .ok (.invokevirtual 76, 3) := by decide +kernel
theorem d_Top_place_8 : decode b_Top_place 8 = .ok (.ifCond .ne 5, 3) := by decide +kernel
theorem d_Top_place_11 : decode b_Top_place 11 = .ok (.iconst (-1), 1) := by decide +kernel
theorem d_Top_place_12 : decode b_Top_place 12 = .ok (.ireturn, 1) := by decide +kernel
theorem d_Top_place_13 : decode b_Top_place 13 = .ok (.aload_n 0, 1) := by decide +kernel
theorem d_Top_place_14 : decode b_Top_place 14 = .ok (.invokevirtual 103, 3) := by decide +kernel
theorem d_Top_place_17 : decode b_Top_place 17 = .ok (.aload_n 0, 1) := by decide +kernel
theorem d_Top_place_18 : decode b_Top_place 18 = .ok (.getfield 19, 3) := by decide +kernel
theorem d_Top_place_21 : decode b_Top_place 21 = .ok (.iload_n 1, 1) := by decide +kernel
theorem d_Top_place_22 : decode b_Top_place 22 = .ok (.aload_n 0, 1) := by decide +kernel
theorem d_Top_place_23 : decode b_Top_place 23 = .ok (.getfield 40, 3) := by decide +kernel
theorem d_Top_place_26 : decode b_Top_place 26 = .ok (.invokevirtual 106, 3) := by decide +kernel
theorem d_Top_place_29 : decode b_Top_place 29 = .ok (.invokevirtual 127, 3) := by decide +kernel
theorem d_Top_place_32 : decode b_Top_place 32 = .ok (.ireturn, 1) := by decide +kernel
theorem d_Top_shared_0 : decode b_Top_shared 0 = .ok (.aload_n 0, 1) := by decide +kernel
theorem d_Top_shared_1 : decode b_Top_shared 1 = .ok (.getfield 19, 3) := by decide +kernel
theorem d_Top_shared_4 : decode b_Top_shared 4 = .ok (.iload_n 1, 1) := by decide +kernel
theorem d_Top_shared_5 : decode b_Top_shared 5 = .ok (.invokevirtual 76, 3) := by decide +kernel
theorem d_Top_shared_8 : decode b_Top_shared 8 = .ok (.ifCond .eq 14, 3) := by decide +kernel
theorem d_Top_shared_11 : decode b_Top_shared 11 = .ok (.aload_n 0, 1) := by decide +kernel
theorem d_Top_shared_12 : decode b_Top_shared 12 = .ok (.getfield 19, 3) := by decide +kernel
theorem d_Top_shared_15 : decode b_Top_shared 15 = .ok (.iload_n 2, 1) := by decide +kernel
theorem d_Top_shared_16 : decode b_Top_shared 16 = .ok (.invokevirtual 76, 3) := by decide +kernel
theorem d_Top_shared_19 : decode b_Top_shared 19 = .ok (.ifCond .ne 5, 3) := by decide +kernel
theorem d_Top_shared_22 : decode b_Top_shared 22 = .ok (.iconst 0, 1) := by decide +kernel
theorem d_Top_shared_23 : decode b_Top_shared 23 = .ok (.ireturn, 1) := by decide +kernel
theorem d_Top_shared_24 : decode b_Top_shared 24 = .ok (.aload_n 0, 1) := by decide +kernel
theorem d_Top_shared_25 : decode b_Top_shared 25 = .ok (.iload_n 1, 1) := by decide +kernel
theorem d_Top_shared_26 : decode b_Top_shared 26 = .ok (.invokevirtual 114, 3) := by decide +kernel
theorem d_Top_shared_29 : decode b_Top_shared 29 = .ok (.aload_n 0, 1) := by decide +kernel
theorem d_Top_shared_30 : decode b_Top_shared 30 = .ok (.iload_n 2, 1) := by decide +kernel
theorem d_Top_shared_31 : decode b_Top_shared 31 = .ok (.invokevirtual 114, 3) := by decide +kernel
theorem d_Top_shared_34 : decode b_Top_shared 34 = .ok (.aload_n 0, 1) := by decide +kernel
theorem d_Top_shared_35 : decode b_Top_shared 35 = .ok (.getfield 19, 3) := by decide +kernel
theorem d_Top_shared_38 : decode b_Top_shared 38 = .ok (.iload_n 1, 1) := by decide +kernel
theorem d_Top_shared_39 : decode b_Top_shared 39 = .ok (.iload_n 2, 1) := by decide +kernel
theorem d_Top_shared_40 : decode b_Top_shared 40 = .ok (.aload_n 0, 1) := by decide +kernel
theorem d_Top_shared_41 : decode b_Top_shared 41 = .ok (.getfield 40, 3) := by decide +kernel
theorem d_Top_shared_44 : decode b_Top_shared 44 = .ok (.invokevirtual 106, 3) := by decide +kernel
theorem d_Top_shared_47 : decode b_Top_shared 47 = .ok (.invokevirtual 130, 3) := by decide +kernel
theorem d_Top_shared_50 : decode b_Top_shared 50 = .ok (.ireturn, 1) := by decide +kernel
theorem d_Top_suspicious_0 : decode b_Top_suspicious 0 = .ok (.iload_n 1, 1) := by decide +kernel
theorem d_Top_suspicious_1 : decode b_Top_suspicious 1 = .ok (.ifCond .lt 12, 3) := by decide +kernel
theorem d_Top_suspicious_4 : decode b_Top_suspicious 4 = .ok (.iload_n 2, 1) := by decide +kernel
theorem d_Top_suspicious_5 : decode b_Top_suspicious 5 = .ok (.ifCond .lt 8, 3) := by decide +kernel
theorem d_Top_suspicious_8 : decode b_Top_suspicious 8 = .ok (.iload_n 2, 1) := by decide +kernel
theorem d_Top_suspicious_9 : decode b_Top_suspicious 9 = .ok (.iconst 3, 1) := by decide +kernel
theorem d_Top_suspicious_10 : decode b_Top_suspicious 10 = .ok (.if_icmp .le 5, 3) := by decide +kernel
theorem d_Top_suspicious_13 : decode b_Top_suspicious 13 = .ok (.iconst (-1), 1) := by decide +kernel
theorem d_Top_suspicious_14 : decode b_Top_suspicious 14 = .ok (.ireturn, 1) := by decide +kernel
theorem d_Top_suspicious_15 : decode b_Top_suspicious 15 = .ok (.iconst 0, 1) := by decide +kernel
theorem d_Top_suspicious_16 : decode b_Top_suspicious 16 = .ok (.istore_n 3, 1) := by decide +kernel
theorem d_Top_suspicious_17 : decode b_Top_suspicious 17 = .ok (.iconst 0, 1) := by decide +kernel
theorem d_Top_suspicious_18 : decode b_Top_suspicious 18 = .ok (.istore 4, 2) := by decide +kernel
theorem d_Top_suspicious_20 : decode b_Top_suspicious 20 = .ok (.iload 4, 2) := by decide +kernel
theorem d_Top_suspicious_22 : decode b_Top_suspicious 22 = .ok (.aload_n 0, 1) := by decide +kernel
theorem d_Top_suspicious_23 : decode b_Top_suspicious 23 = .ok (.getfield 26, 3) := by decide +kernel
theorem d_Top_suspicious_26 : decode b_Top_suspicious 26 = .ok (.getfield 134, 3) := by decide +kernel
theorem d_Top_suspicious_29 : decode b_Top_suspicious 29 = .ok (.if_icmp .ge 131, 3) := by decide +kernel
theorem d_Top_suspicious_32 : decode b_Top_suspicious 32 = .ok (.aload_n 0, 1) := by decide +kernel
theorem d_Top_suspicious_33 : decode b_Top_suspicious 33 = .ok (.getfield 26, 3) := by decide +kernel
theorem d_Top_suspicious_36 : decode b_Top_suspicious 36 = .ok (.getfield 92, 3) := by decide +kernel
theorem d_Top_suspicious_39 : decode b_Top_suspicious 39 = .ok (.iload 4, 2) := by decide +kernel
theorem d_Top_suspicious_41 : decode b_Top_suspicious 41 = .ok (.baload, 1) := by decide +kernel
theorem d_Top_suspicious_42 : decode b_Top_suspicious 42 = .ok (.ifCond .eq 6, 3) := by decide +kernel
theorem d_Top_suspicious_45 : decode b_Top_suspicious 45 = .ok (.goto 109, 3) := by decide +kernel
theorem d_Top_suspicious_48 : decode b_Top_suspicious 48 = .ok (.aload_n 0, 1) := by decide +kernel
theorem d_Top_suspicious_49 : decode b_Top_suspicious 49 = .ok (.getfield 26, 3) := by decide +kernel
theorem d_Top_suspicious_52 : decode b_Top_suspicious 52 = .ok (.iload 4, 2) := by decide +kernel
theorem d_Top_suspicious_54 : decode b_Top_suspicious 54 = .ok (.aload_n 0, 1) := by decide +kernel
theorem d_Top_suspicious_55 : decode b_Top_suspicious 55 = .ok (.getfield 56, 3) := by decide +kernel
theorem d_Top_suspicious_58 : decode b_Top_suspicious 58 = .ok (.invokevirtual 138, 3) := by decide +kernel
theorem d_Top_suspicious_61 : decode b_Top_suspicious 61 = .ok (.aload_n 0, 1) := by decide +kernel
theorem d_Top_suspicious_62 : decode b_Top_suspicious 62 = .ok (.getfield 26, 3) := by decide +kernel
theorem d_Top_suspicious_65 : decode b_Top_suspicious 65 = .ok (.getfield 142, 3) := by decide +kernel
theorem d_Top_suspicious_68 : decode b_Top_suspicious 68 = .ok (.iload 4, 2) := by decide +kernel
theorem d_Top_suspicious_70 : decode b_Top_suspicious 70 = .ok (.iaload, 1) := by decide +kernel
theorem d_Top_suspicious_71 : decode b_Top_suspicious 71 = .ok (.iconst 1, 1) := by decide +kernel
theorem d_Top_suspicious_72 : decode b_Top_suspicious 72 = .ok (.iadd, 1) := by decide +kernel
theorem d_Top_suspicious_73 : decode b_Top_suspicious 73 = .ok (.istore 5, 2) := by decide +kernel
theorem d_Top_suspicious_75 : decode b_Top_suspicious 75 = .ok (.iload 5, 2) := by decide +kernel
theorem d_Top_suspicious_77 : decode b_Top_suspicious 77 = .ok (.aload_n 0, 1) := by decide +kernel
theorem d_Top_suspicious_78 : decode b_Top_suspicious 78 = .ok (.getfield 19, 3) := by decide +kernel
theorem d_Top_suspicious_81 : decode b_Top_suspicious 81 = .ok (.getfield 144, 3) := by decide +kernel
theorem d_Top_suspicious_84 : decode b_Top_suspicious 84 = .ok (.if_icmp .ge 70, 3) := by decide +kernel
theorem d_Top_suspicious_87 : decode b_Top_suspicious 87 = .ok (.aload_n 0, 1) := by decide +kernel
theorem d_Top_suspicious_88 : decode b_Top_suspicious 88 = .ok (.getfield 56, 3) := by decide +kernel
theorem d_Top_suspicious_91 : decode b_Top_suspicious 91 = .ok (.iload 5, 2) := by decide +kernel
theorem d_Top_suspicious_93 : decode b_Top_suspicious 93 = .ok (.iaload, 1) := by decide +kernel
theorem d_Top_suspicious_94 : decode b_Top_suspicious 94 = .ok (.iconst (-1), 1) := by decide +kernel
theorem d_Top_suspicious_95 : decode b_Top_suspicious 95 = .ok (.if_icmp .eq 53, 3) := by decide +kernel
theorem d_Top_suspicious_98 : decode b_Top_suspicious 98 = .ok (.aload_n 0, 1) := by decide +kernel
theorem d_Top_suspicious_99 : decode b_Top_suspicious 99 = .ok (.getfield 26, 3) := by decide +kernel
theorem d_Top_suspicious_102 : decode b_Top_suspicious 102 = .ok (.iload 4, 2) := by decide +kernel
theorem d_Top_suspicious_104 : decode b_Top_suspicious 104 = .ok (.aload_n 0, 1) := by decide +kernel
theorem d_Top_suspicious_105 : decode b_Top_suspicious 105 = .ok (.getfield 56, 3) := by decide +kernel
theorem d_Top_suspicious_108 : decode b_Top_suspicious 108 = .ok (.iload 5, 2) := by decide +kernel
theorem d_Top_suspicious_110 : decode b_Top_suspicious 110 = .ok (.iaload, 1) := by decide +kernel
theorem d_Top_suspicious_111 : decode b_Top_suspicious 111 = .ok (.invokevirtual 145, 3) := by decide +kernel
theorem d_Top_suspicious_114 : decode b_Top_suspicious 114 = .ok (.bipush 60, 2) := by decide +kernel
theorem d_Top_suspicious_116 : decode b_Top_suspicious 116 = .ok (.if_icmp .le 6, 3) := by decide +kernel
theorem d_Top_suspicious_119 : decode b_Top_suspicious 119 = .ok (.goto 29, 3) := by decide +kernel
theorem d_Top_suspicious_122 : decode b_Top_suspicious 122 = .ok (.iload_n 3, 1) := by decide +kernel
theorem d_Top_suspicious_123 : decode b_Top_suspicious 123 = .ok (.iload_n 1, 1) := by decide +kernel
theorem d_Top_suspicious_124 : decode b_Top_suspicious 124 = .ok (.if_icmp .ne 21, 3) := by decide +kernel
theorem d_Top_suspicious_127 : decode b_Top_suspicious 127 = .ok (.aload_n 0, 1) := by decide +kernel
theorem d_Top_suspicious_128 : decode b_Top_suspicious 128 = .ok (.getfield 26, 3) := by decide +kernel
theorem d_Top_suspicious_131 : decode b_Top_suspicious 131 = .ok (.iload 4, 2) := by decide +kernel
theorem d_Top_suspicious_133 : decode b_Top_suspicious 133 = .ok (.aload_n 0, 1) := by decide +kernel
theorem d_Top_suspicious_134 : decode b_Top_suspicious 134 = .ok (.getfield 56, 3) := by decide +kernel
theorem d_Top_suspicious_137 : decode b_Top_suspicious 137 = .ok (.iload 5, 2) := by decide +kernel
theorem d_Top_suspicious_139 : decode b_Top_suspicious 139 = .ok (.iaload, 1) := by decide +kernel
theorem d_Top_suspicious_140 : decode b_Top_suspicious 140 = .ok (.iload_n 2, 1) := by decide +kernel
theorem d_Top_suspicious_141 : decode b_Top_suspicious 141 = .ok (.invokevirtual 149, 3) := by decide +kernel
theorem d_Top_suspicious_144 : decode b_Top_suspicious 144 = .ok (.ireturn, 1) := by decide +kernel
theorem d_Top_suspicious_145 : decode b_Top_suspicious 145 = .ok (.iinc 3 1, 3) := by decide +kernel
theorem d_Top_suspicious_148 : decode b_Top_suspicious 148 = .ok (.iinc 5 1, 3) := by decide +kernel
theorem d_Top_suspicious_151 : decode b_Top_suspicious 151 = .ok (.goto (-76), 3) := by decide +kernel
theorem d_Top_suspicious_154 : decode b_Top_suspicious 154 = .ok (.iinc 4 1, 3) := by decide +kernel
theorem d_Top_suspicious_157 : decode b_Top_suspicious 157 = .ok (.goto (-137), 3) := by decide +kernel
theorem d_Top_suspicious_160 : decode b_Top_suspicious 160 = .ok (.iconst (-1), 1) := by decide +kernel
theorem d_Top_suspicious_161 : decode b_Top_suspicious 161 = .ok (.ireturn, 1) := by decide +kernel
theorem d_Top_even_0 : decode b_Top_even 0 = .ok (.iload_n 1, 1) := by decide +kernel
theorem d_Top_even_1 : decode b_Top_even 1 = .ok (.iconst 1, 1) := by decide +kernel
theorem d_Top_even_2 : decode b_Top_even 2 = .ok (.if_icmp .lt 20, 3) := by decide +kernel
theorem d_Top_even_5 : decode b_Top_even 5 = .ok (.iload_n 1, 1) := by decide +kernel
theorem d_Top_even_6 : decode b_Top_even 6 = .ok (.bipush 6, 2) := by decide +kernel
theorem d_Top_even_8 : decode b_Top_even 8 = .ok (.if_icmp .gt 14, 3) := by decide +kernel
theorem d_Top_even_11 : decode b_Top_even 11 = .ok (.aload_n 0, 1) := by decide +kernel
theorem d_Top_even_12 : decode b_Top_even 12 = .ok (.getfield 10, 3) := by decide +kernel
theorem d_Top_even_15 : decode b_Top_even 15 = .ok (.iload_n 2, 1) := by decide +kernel
theorem d_Top_even_16 : decode b_Top_even 16 = .ok (.invokevirtual 87, 3) := by decide +kernel
theorem d_Top_even_19 : decode b_Top_even 19 = .ok (.ifCond .ne 5, 3) := by decide +kernel
theorem d_Top_even_22 : decode b_Top_even 22 = .ok (.iconst (-1), 1) := by decide +kernel
theorem d_Top_even_23 : decode b_Top_even 23 = .ok (.ireturn, 1) := by decide +kernel
theorem d_Top_even_24 : decode b_Top_even 24 = .ok (.aload_n 0, 1) := by decide +kernel
theorem d_Top_even_25 : decode b_Top_even 25 = .ok (.getfield 10, 3) := by decide +kernel
theorem d_Top_even_28 : decode b_Top_even 28 = .ok (.iload_n 2, 1) := by decide +kernel
theorem d_Top_even_29 : decode b_Top_even 29 = .ok (.iload_n 1, 1) := by decide +kernel
theorem d_Top_even_30 : decode b_Top_even 30 = .ok (.invokevirtual 153, 3) := by decide +kernel
theorem d_Top_even_33 : decode b_Top_even 33 = .ok (.ireturn, 1) := by decide +kernel
theorem d_Top_apart_0 : decode b_Top_apart 0 = .ok (.aload_n 0, 1) := by decide +kernel
theorem d_Top_apart_1 : decode b_Top_apart 1 = .ok (.getfield 10, 3) := by decide +kernel
theorem d_Top_apart_4 : decode b_Top_apart 4 = .ok (.invokevirtual 156, 3) := by decide +kernel
theorem d_Top_apart_7 : decode b_Top_apart 7 = .ok (.ireturn, 1) := by decide +kernel
theorem d_Top_secondsFromStart_0 : decode b_Top_secondsFromStart 0 = .ok (.aload_n 0, 1) := by decide +kernel
theorem d_Top_secondsFromStart_1 : decode b_Top_secondsFromStart 1 = .ok (.getfield 26, 3) := by decide +kernel
theorem d_Top_secondsFromStart_4 : decode b_Top_secondsFromStart 4 = .ok (.getfield 159, 3) := by decide +kernel
theorem d_Top_secondsFromStart_7 : decode b_Top_secondsFromStart 7 = .ok (.iload_n 1, 1) := by decide +kernel
theorem d_Top_secondsFromStart_8 : decode b_Top_secondsFromStart 8 = .ok (.iaload, 1) := by decide +kernel
theorem d_Top_secondsFromStart_9 : decode b_Top_secondsFromStart 9 = .ok (.aload_n 0, 1) := by decide +kernel
theorem d_Top_secondsFromStart_10 : decode b_Top_secondsFromStart 10 = .ok (.getfield 19, 3) := by decide +kernel
theorem d_Top_secondsFromStart_13 : decode b_Top_secondsFromStart 13 = .ok (.getfield 84, 3) := by decide +kernel
theorem d_Top_secondsFromStart_16 : decode b_Top_secondsFromStart 16 = .ok (.aload_n 0, 1) := by decide +kernel
theorem d_Top_secondsFromStart_17 : decode b_Top_secondsFromStart 17 = .ok (.getfield 26, 3) := by decide +kernel
theorem d_Top_secondsFromStart_20 : decode b_Top_secondsFromStart 20 = .ok (.getfield 142, 3) := by decide +kernel
theorem d_Top_secondsFromStart_23 : decode b_Top_secondsFromStart 23 = .ok (.iload_n 1, 1) := by decide +kernel
theorem d_Top_secondsFromStart_24 : decode b_Top_secondsFromStart 24 = .ok (.iaload, 1) := by decide +kernel
theorem d_Top_secondsFromStart_25 : decode b_Top_secondsFromStart 25 = .ok (.iaload, 1) := by decide +kernel
theorem d_Top_secondsFromStart_26 : decode b_Top_secondsFromStart 26 = .ok (.isub, 1) := by decide +kernel
theorem d_Top_secondsFromStart_27 : decode b_Top_secondsFromStart 27 = .ok (.ireturn, 1) := by decide +kernel
theorem d_Top_workOutAll_0 : decode b_Top_workOutAll 0 = .ok (.iconst 0, 1) := by decide +kernel
theorem d_Top_workOutAll_1 : decode b_Top_workOutAll 1 = .ok (.istore_n 1, 1) := by decide +kernel
theorem d_Top_workOutAll_2 : decode b_Top_workOutAll 2 = .ok (.iload_n 1, 1) := by decide +kernel
theorem d_Top_workOutAll_3 : decode b_Top_workOutAll 3 = .ok (.aload_n 0, 1) := by decide +kernel
theorem d_Top_workOutAll_4 : decode b_Top_workOutAll 4 = .ok (.getfield 19, 3) := by decide +kernel
theorem d_Top_workOutAll_7 : decode b_Top_workOutAll 7 = .ok (.getfield 144, 3) := by decide +kernel
theorem d_Top_workOutAll_10 : decode b_Top_workOutAll 10 = .ok (.if_icmp .ge 14, 3) := by decide +kernel
theorem d_Top_workOutAll_13 : decode b_Top_workOutAll 13 = .ok (.aload_n 0, 1) := by decide +kernel
theorem d_Top_workOutAll_14 : decode b_Top_workOutAll 14 = .ok (.iload_n 1, 1) := by decide +kernel
theorem d_Top_workOutAll_15 : decode b_Top_workOutAll 15 = .ok (.invokevirtual 114, 3) := by decide +kernel
theorem d_Top_workOutAll_18 : decode b_Top_workOutAll 18 = .ok (.iinc 1 1, 3) := by decide +kernel
theorem d_Top_workOutAll_21 : decode b_Top_workOutAll 21 = .ok (.goto (-19), 3) := by decide +kernel
theorem d_Top_workOutAll_24 : decode b_Top_workOutAll 24 = .ok (.return_, 1) := by decide +kernel
theorem d_Top_workOut_0 : decode b_Top_workOut 0 = .ok (.iconst 0, 1) := by decide +kernel
theorem d_Top_workOut_1 : decode b_Top_workOut 1 = .ok (.istore_n 2, 1) := by decide +kernel
theorem d_Top_workOut_2 : decode b_Top_workOut 2 = .ok (.iload_n 2, 1) := by decide +kernel
theorem d_Top_workOut_3 : decode b_Top_workOut 3 = .ok (.bipush 20, 2) := by decide +kernel
theorem d_Top_workOut_5 : decode b_Top_workOut 5 = .ok (.if_icmp .ge 32, 3) := by decide +kernel
theorem d_Top_workOut_8 : decode b_Top_workOut 8 = .ok (.aload_n 0, 1) := by decide +kernel
theorem d_Top_workOut_9 : decode b_Top_workOut 9 = .ok (.getfield 44, 3) := by decide +kernel
theorem d_Top_workOut_12 : decode b_Top_workOut 12 = .ok (.iload_n 2, 1) := by decide +kernel
theorem d_Top_workOut_13 : decode b_Top_workOut 13 = .ok (.iconst 0, 1) := by decide +kernel
theorem d_Top_workOut_14 : decode b_Top_workOut 14 = .ok (.iastore, 1) := by decide +kernel
theorem d_Top_workOut_15 : decode b_Top_workOut 15 = .ok (.aload_n 0, 1) := by decide +kernel
theorem d_Top_workOut_16 : decode b_Top_workOut 16 = .ok (.getfield 48, 3) := by decide +kernel
theorem d_Top_workOut_19 : decode b_Top_workOut 19 = .ok (.iload_n 2, 1) := by decide +kernel
theorem d_Top_workOut_20 : decode b_Top_workOut 20 = .ok (.iconst 0, 1) := by decide +kernel
theorem d_Top_workOut_21 : decode b_Top_workOut 21 = .ok (.bastore, 1) := by decide +kernel
theorem d_Top_workOut_22 : decode b_Top_workOut 22 = .ok (.aload_n 0, 1) := by decide +kernel
theorem d_Top_workOut_23 : decode b_Top_workOut 23 = .ok (.getfield 52, 3) := by decide +kernel
theorem d_Top_workOut_26 : decode b_Top_workOut 26 = .ok (.iload_n 2, 1) := by decide +kernel
theorem d_Top_workOut_27 : decode b_Top_workOut 27 = .ok (.ldc2_w 101, 3) := by decide +kernel
theorem d_Top_workOut_30 : decode b_Top_workOut 30 = .ok (.lastore, 1) := by decide +kernel
theorem d_Top_workOut_31 : decode b_Top_workOut 31 = .ok (.iinc 2 1, 3) := by decide +kernel
theorem d_Top_workOut_34 : decode b_Top_workOut 34 = .ok (.goto (-32), 3) := by decide +kernel
theorem d_Top_workOut_37 : decode b_Top_workOut 37 = .ok (.aload_n 0, 1) := by decide +kernel
theorem d_Top_workOut_38 : decode b_Top_workOut 38 = .ok (.getfield 19, 3) := by decide +kernel
theorem d_Top_workOut_41 : decode b_Top_workOut 41 = .ok (.iload_n 1, 1) := by decide +kernel
theorem d_Top_workOut_42 : decode b_Top_workOut 42 = .ok (.invokevirtual 162, 3) := by decide +kernel
theorem d_Top_workOut_45 : decode b_Top_workOut 45 = .ok (.iconst 0, 1) := by decide +kernel
theorem d_Top_workOut_46 : decode b_Top_workOut 46 = .ok (.istore_n 2, 1) := by decide +kernel
theorem d_Top_workOut_47 : decode b_Top_workOut 47 = .ok (.iload_n 2, 1) := by decide +kernel
theorem d_Top_workOut_48 : decode b_Top_workOut 48 = .ok (.aload_n 0, 1) := by decide +kernel
theorem d_Top_workOut_49 : decode b_Top_workOut 49 = .ok (.getfield 26, 3) := by decide +kernel
theorem d_Top_workOut_52 : decode b_Top_workOut 52 = .ok (.getfield 134, 3) := by decide +kernel
theorem d_Top_workOut_55 : decode b_Top_workOut 55 = .ok (.if_icmp .ge 38, 3) := by decide +kernel
theorem d_Top_workOut_58 : decode b_Top_workOut 58 = .ok (.aload_n 0, 1) := by decide +kernel
theorem d_Top_workOut_59 : decode b_Top_workOut 59 = .ok (.getfield 26, 3) := by decide +kernel
theorem d_Top_workOut_62 : decode b_Top_workOut 62 = .ok (.getfield 165, 3) := by decide +kernel
theorem d_Top_workOut_65 : decode b_Top_workOut 65 = .ok (.iload_n 2, 1) := by decide +kernel
theorem d_Top_workOut_66 : decode b_Top_workOut 66 = .ok (.iaload, 1) := by decide +kernel
theorem d_Top_workOut_67 : decode b_Top_workOut 67 = .ok (.istore_n 3, 1) := by decide +kernel
theorem d_Top_workOut_68 : decode b_Top_workOut 68 = .ok (.aload_n 0, 1) := by decide +kernel
theorem d_Top_workOut_69 : decode b_Top_workOut 69 = .ok (.getfield 26, 3) := by decide +kernel
theorem d_Top_workOut_72 : decode b_Top_workOut 72 = .ok (.getfield 142, 3) := by decide +kernel
theorem d_Top_workOut_75 : decode b_Top_workOut 75 = .ok (.iload_n 3, 1) := by decide +kernel
theorem d_Top_workOut_76 : decode b_Top_workOut 76 = .ok (.iaload, 1) := by decide +kernel
theorem d_Top_workOut_77 : decode b_Top_workOut 77 = .ok (.iload_n 1, 1) := by decide +kernel
theorem d_Top_workOut_78 : decode b_Top_workOut 78 = .ok (.if_icmp .ne 9, 3) := by decide +kernel
theorem d_Top_workOut_81 : decode b_Top_workOut 81 = .ok (.aload_n 0, 1) := by decide +kernel
theorem d_Top_workOut_82 : decode b_Top_workOut 82 = .ok (.iload_n 1, 1) := by decide +kernel
theorem d_Top_workOut_83 : decode b_Top_workOut 83 = .ok (.iload_n 3, 1) := by decide +kernel
theorem d_Top_workOut_84 : decode b_Top_workOut 84 = .ok (.invokevirtual 168, 3) := by decide +kernel
theorem d_Top_workOut_87 : decode b_Top_workOut 87 = .ok (.iinc 2 1, 3) := by decide +kernel
theorem d_Top_workOut_90 : decode b_Top_workOut 90 = .ok (.goto (-43), 3) := by decide +kernel
theorem d_Top_workOut_93 : decode b_Top_workOut 93 = .ok (.return_, 1) := by decide +kernel
theorem d_Top_take_0 : decode b_Top_take 0 = .ok (.aload_n 0, 1) := by decide +kernel
theorem d_Top_take_1 : decode b_Top_take 1 = .ok (.getfield 26, 3) := by decide +kernel
theorem d_Top_take_4 : decode b_Top_take 4 = .ok (.getfield 172, 3) := by decide +kernel
theorem d_Top_take_7 : decode b_Top_take 7 = .ok (.iload_n 2, 1) := by decide +kernel
theorem d_Top_take_8 : decode b_Top_take 8 = .ok (.iaload, 1) := by decide +kernel
theorem d_Top_take_9 : decode b_Top_take 9 = .ok (.istore_n 3, 1) := by decide +kernel
theorem d_Top_take_10 : decode b_Top_take 10 = .ok (.aload_n 0, 1) := by decide +kernel
theorem d_Top_take_11 : decode b_Top_take 11 = .ok (.getfield 48, 3) := by decide +kernel
theorem d_Top_take_14 : decode b_Top_take 14 = .ok (.iload_n 3, 1) := by decide +kernel
theorem d_Top_take_15 : decode b_Top_take 15 = .ok (.baload, 1) := by decide +kernel
theorem d_Top_take_16 : decode b_Top_take 16 = .ok (.ifCond .eq 4, 3) := by decide +kernel
theorem d_Top_take_19 : decode b_Top_take 19 = .ok (.return_, 1) := by decide +kernel
theorem d_Top_take_20 : decode b_Top_take 20 = .ok (.aload_n 0, 1) := by decide +kernel
theorem d_Top_take_21 : decode b_Top_take 21 = .ok (.getfield 26, 3) := by decide +kernel
theorem d_Top_take_24 : decode b_Top_take 24 = .ok (.getfield 92, 3) := by decide +kernel
theorem d_Top_take_27 : decode b_Top_take 27 = .ok (.iload_n 2, 1) := by decide +kernel
theorem d_Top_take_28 : decode b_Top_take 28 = .ok (.baload, 1) := by decide +kernel
theorem d_Top_take_29 : decode b_Top_take 29 = .ok (.ifCond .ne 14, 3) := by decide +kernel
theorem d_Top_take_32 : decode b_Top_take 32 = .ok (.aload_n 0, 1) := by decide +kernel
theorem d_Top_take_33 : decode b_Top_take 33 = .ok (.getfield 44, 3) := by decide +kernel
theorem d_Top_take_36 : decode b_Top_take 36 = .ok (.iload_n 3, 1) := by decide +kernel
theorem d_Top_take_37 : decode b_Top_take 37 = .ok (.dup2, 1) := by decide +kernel
theorem d_Top_take_38 : decode b_Top_take 38 = .ok (.iaload, 1) := by decide +kernel
theorem d_Top_take_39 : decode b_Top_take 39 = .ok (.iconst 1, 1) := by decide +kernel
theorem d_Top_take_40 : decode b_Top_take 40 = .ok (.iadd, 1) := by decide +kernel
theorem d_Top_take_41 : decode b_Top_take 41 = .ok (.iastore, 1) := by decide +kernel
theorem d_Top_take_42 : decode b_Top_take 42 = .ok (.return_, 1) := by decide +kernel
theorem d_Top_take_43 : decode b_Top_take 43 = .ok (.aload_n 0, 1) := by decide +kernel
theorem d_Top_take_44 : decode b_Top_take 44 = .ok (.getfield 48, 3) := by decide +kernel
theorem d_Top_take_47 : decode b_Top_take 47 = .ok (.iload_n 3, 1) := by decide +kernel
theorem d_Top_take_48 : decode b_Top_take 48 = .ok (.iconst 1, 1) := by decide +kernel
theorem d_Top_take_49 : decode b_Top_take 49 = .ok (.bastore, 1) := by decide +kernel
theorem d_Top_take_50 : decode b_Top_take 50 = .ok (.aload_n 0, 1) := by decide +kernel
theorem d_Top_take_51 : decode b_Top_take 51 = .ok (.iload_n 2, 1) := by decide +kernel
theorem d_Top_take_52 : decode b_Top_take 52 = .ok (.invokevirtual 95, 3) := by decide +kernel
theorem d_Top_take_55 : decode b_Top_take 55 = .ok (.istore 4, 2) := by decide +kernel
theorem d_Top_take_57 : decode b_Top_take 57 = .ok (.aload_n 0, 1) := by decide +kernel
theorem d_Top_take_58 : decode b_Top_take 58 = .ok (.getfield 40, 3) := by decide +kernel
theorem d_Top_take_61 : decode b_Top_take 61 = .ok (.iload 4, 2) := by decide +kernel
theorem d_Top_take_63 : decode b_Top_take 63 = .ok (.invokevirtual 98, 3) := by decide +kernel
theorem d_Top_take_66 : decode b_Top_take 66 = .ok (.ifCond .eq 4, 3) := by decide +kernel
theorem d_Top_take_69 : decode b_Top_take 69 = .ok (.return_, 1) := by decide +kernel
theorem d_Top_take_70 : decode b_Top_take 70 = .ok (.aload_n 0, 1) := by decide +kernel
theorem d_Top_take_71 : decode b_Top_take 71 = .ok (.getfield 52, 3) := by decide +kernel
theorem d_Top_take_74 : decode b_Top_take 74 = .ok (.iload_n 3, 1) := by decide +kernel
theorem d_Top_take_75 : decode b_Top_take 75 = .ok (.aload_n 0, 1) := by decide +kernel
theorem d_Top_take_76 : decode b_Top_take 76 = .ok (.getfield 40, 3) := by decide +kernel
theorem d_Top_take_79 : decode b_Top_take 79 = .ok (.aload_n 0, 1) := by decide +kernel
theorem d_Top_take_80 : decode b_Top_take 80 = .ok (.getfield 10, 3) := by decide +kernel
theorem d_Top_take_83 : decode b_Top_take 83 = .ok (.getfield 174, 3) := by decide +kernel
theorem d_Top_take_86 : decode b_Top_take 86 = .ok (.iload_n 3, 1) := by decide +kernel
theorem d_Top_take_87 : decode b_Top_take 87 = .ok (.iaload, 1) := by decide +kernel
theorem d_Top_take_88 : decode b_Top_take 88 = .ok (.iload 4, 2) := by decide +kernel
theorem d_Top_take_90 : decode b_Top_take 90 = .ok (.aload_n 0, 1) := by decide +kernel
theorem d_Top_take_91 : decode b_Top_take 91 = .ok (.getfield 44, 3) := by decide +kernel
theorem d_Top_take_94 : decode b_Top_take 94 = .ok (.iload_n 3, 1) := by decide +kernel
theorem d_Top_take_95 : decode b_Top_take 95 = .ok (.iaload, 1) := by decide +kernel
theorem d_Top_take_96 : decode b_Top_take 96 = .ok (.invokevirtual 177, 3) := by decide +kernel
theorem d_Top_take_99 : decode b_Top_take 99 = .ok (.lastore, 1) := by decide +kernel
theorem d_Top_take_100 : decode b_Top_take 100 = .ok (.aload_n 0, 1) := by decide +kernel
theorem d_Top_take_101 : decode b_Top_take 101 = .ok (.getfield 19, 3) := by decide +kernel
theorem d_Top_take_104 : decode b_Top_take 104 = .ok (.iload_n 1, 1) := by decide +kernel
theorem d_Top_take_105 : decode b_Top_take 105 = .ok (.aload_n 0, 1) := by decide +kernel
theorem d_Top_take_106 : decode b_Top_take 106 = .ok (.getfield 52, 3) := by decide +kernel
theorem d_Top_take_109 : decode b_Top_take 109 = .ok (.iload_n 3, 1) := by decide +kernel
theorem d_Top_take_110 : decode b_Top_take 110 = .ok (.laload, 1) := by decide +kernel
theorem d_Top_take_111 : decode b_Top_take 111 = .ok (.iload 4, 2) := by decide +kernel
theorem d_Top_take_113 : decode b_Top_take 113 = .ok (.invokevirtual 181, 3) := by decide +kernel
theorem d_Top_take_116 : decode b_Top_take 116 = .ok (.return_, 1) := by decide +kernel
