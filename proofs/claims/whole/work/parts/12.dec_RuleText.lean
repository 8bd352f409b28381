theorem d_RuleText_init_0 : decode b_RuleText_init 0 = .ok (.aload_n 0, 1) := by decide +kernel
theorem d_RuleText_init_1 : decode b_RuleText_init 1 = .ok (.invokespecial 1, 3) := by decide +kernel
theorem d_RuleText_init_4 : decode b_RuleText_init 4 = .ok (.aload_n 0, 1) := by decide +kernel
theorem d_RuleText_init_5 : decode b_RuleText_init 5 = .ok (.bipush 100, 2) := by decide +kernel
theorem d_RuleText_init_7 : decode b_RuleText_init 7 = .ok (.newarray .int, 2) := by decide +kernel
theorem d_RuleText_init_9 : decode b_RuleText_init 9 = .ok (.putfield 9, 3) := by decide +kernel
theorem d_RuleText_init_12 : decode b_RuleText_init 12 = .ok (.return_, 1) := by decide +kernel
theorem d_RuleText_add_0 : decode b_RuleText_add 0 = .ok (.iload_n 1, 1) := by decide +kernel
theorem d_RuleText_add_1 : decode b_RuleText_add 1 = .ok (.ifCond .lt 19, 3) := by decide +kernel
theorem d_RuleText_add_4 : decode b_RuleText_add 4 = .ok (.iload_n 1, 1) := by decide +kernel
theorem d_RuleText_add_5 : decode b_RuleText_add 5 = .ok (.sipush 255, 3) := by decide +kernel
theorem d_RuleText_add_8 : decode b_RuleText_add 8 = .ok (.if_icmp .gt 12, 3) := by decide +kernel
theorem d_RuleText_add_11 : decode b_RuleText_add 11 = .ok (.aload_n 0, 1) := by decide +kernel
theorem d_RuleText_add_12 : decode b_RuleText_add 12 = .ok (.getfield 13, 3) := by decide +kernel
theorem d_RuleText_add_15 : decode b_RuleText_add 15 = .ok (.bipush 100, 2) := by decide +kernel
theorem d_RuleText_add_17 : decode b_RuleText_add 17 = .ok (.if_icmp .lt 5, 3) := by decide +kernel
theorem d_RuleText_add_20 : decode b_RuleText_add 20 = .ok (.iconst 0, 1) := by decide +kernel
theorem d_RuleText_add_21 : decode b_RuleText_add 21 = .ok (.ireturn, 1) := by decide +kernel
theorem d_RuleText_add_22 : decode b_RuleText_add 22 = .ok (.aload_n 0, 1) := by decide +kernel
theorem d_RuleText_add_23 : decode b_RuleText_add 23 = .ok (.getfield 9, 3) := by decide +kernel
theorem d_RuleText_add_26 : decode b_RuleText_add 26 = .ok (.aload_n 0, 1) := by decide +kernel
theorem d_RuleText_add_27 : decode b_RuleText_add 27 = .ok (.getfield 13, 3) := by decide +kernel
theorem d_RuleText_add_30 : decode b_RuleText_add 30 = .ok (.iload_n 1, 1) := by decide +kernel
theorem d_RuleText_add_31 : decode b_RuleText_add 31 = .ok (.iastore, 1) := by decide +kernel
theorem d_RuleText_add_32 : decode b_RuleText_add 32 = .ok (.aload_n 0, 1) := by decide +kernel
theorem d_RuleText_add_33 : decode b_RuleText_add 33 = .ok (.dup, 1) := by decide +kernel
theorem d_RuleText_add_34 : decode b_RuleText_add 34 = .ok (.getfield 13, 3) := by decide +kernel
theorem d_RuleText_add_37 : decode b_RuleText_add 37 = .ok (.iconst 1, 1) := by decide +kernel
theorem d_RuleText_add_38 : decode b_RuleText_add 38 = .ok (.iadd, 1) := by decide +kernel
theorem d_RuleText_add_39 : decode b_RuleText_add 39 = .ok (.putfield 13, 3) := by decide +kernel
theorem d_RuleText_add_42 : decode b_RuleText_add 42 = .ok (.iconst 1, 1) := by decide +kernel
theorem d_RuleText_add_43 : decode b_RuleText_add 43 = .ok (.ireturn, 1) := by decide +kernel
theorem d_RuleText_clear_0 : decode b_RuleText_clear 0 = .ok (.aload_n 0, 1) := by decide +kernel
theorem d_RuleText_clear_1 : decode b_RuleText_clear 1 = .ok (.iconst 0, 1) := by decide +kernel
theorem d_RuleText_clear_2 : decode b_RuleText_clear 2 = .ok (.putfield 13, 3) := by decide +kernel
theorem d_RuleText_clear_5 : decode b_RuleText_clear 5 = .ok (.return_, 1) := by decide +kernel
theorem d_RuleText_read_0 : decode b_RuleText_read 0 = .ok (.aload_n 1, 1) := by decide +kernel
theorem d_RuleText_read_1 : decode b_RuleText_read 1 = .ok (.invokevirtual 17, 3) := by decide +kernel
theorem d_RuleText_read_4 : decode b_RuleText_read 4 = .ok (.iconst 0, 1) := by decide +kernel
theorem d_RuleText_read_5 : decode b_RuleText_read 5 = .ok (.istore_n 2, 1) := by decide +kernel
theorem d_RuleText_read_6 : decode b_RuleText_read 6 = .ok (.iconst 0, 1) := by decide +kernel
theorem d_RuleText_read_7 : decode b_RuleText_read 7 = .ok (.istore_n 3, 1) := by decide +kernel
theorem d_RuleText_read_8 : decode b_RuleText_read 8 = .ok (.iload_n 3, 1) := by decide +kernel
theorem d_RuleText_read_9 : decode b_RuleText_read 9 = .ok (.aload_n 0, 1) := by decide +kernel
theorem d_RuleText_read_10 : decode b_RuleText_read 10 = .ok (.getfield 13, 3) := by decide +kernel
theorem d_RuleText_read_13 : decode b_RuleText_read 13 = .ok (.if_icmp .ge 127, 3) := by decide +kernel
theorem d_RuleText_read_16 : decode b_RuleText_read 16 = .ok (.ldc 22, 2) := by decide +kernel
theorem d_RuleText_read_18 : decode b_RuleText_read 18 = .ok (.aload_n 0, 1) := by decide +kernel
theorem d_RuleText_read_19 : decode b_RuleText_read 19 = .ok (.getfield 9, 3) := by decide +kernel
theorem d_RuleText_read_22 : decode b_RuleText_read 22 = .ok (.iload_n 3, 1) := by decide +kernel
theorem d_RuleText_read_23 : decode b_RuleText_read 23 = .ok (.iaload, 1) := by decide +kernel
theorem d_RuleText_read_24 : decode b_RuleText_read 24 = .ok (.i2c, 1) := by decide +kernel
theorem d_RuleText_read_25 : decode b_RuleText_read 25 = .ok (.invokevirtual 24, 3) := by decide +kernel
theorem d_RuleText_read_28 : decode b_RuleText_read 28 = .ok (.istore 4, 2) := by decide +kernel
theorem d_RuleText_read_30 : decode b_RuleText_read 30 = .ok (.iload 4, 2) := by decide +kernel
theorem d_RuleText_read_32 : decode b_RuleText_read 32 = .ok (.ifCond .ge 8, 3) := by decide +kernel
theorem d_RuleText_read_35 : decode b_RuleText_read 35 = .ok (.iload_n 3, 1) := by decide +kernel
theorem d_RuleText_read_36 : decode b_RuleText_read 36 = .ok (.invokestatic 30, 3) := by decide +kernel
theorem d_RuleText_read_39 : decode b_RuleText_read 39 = .ok (.ireturn, 1) := by decide +kernel
theorem d_RuleText_read_40 : decode b_RuleText_read 40 = .ok (.aload_n 0, 1) := by decide +kernel
theorem d_RuleText_read_41 : decode b_RuleText_read 41 = .ok (.iload_n 3, 1) := by decide +kernel
theorem d_RuleText_read_42 : decode b_RuleText_read 42 = .ok (.iconst 1, 1) := by decide +kernel
theorem d_RuleText_read_43 : decode b_RuleText_read 43 = .ok (.iadd, 1) := by decide +kernel
theorem d_RuleText_read_44 : decode b_RuleText_read 44 = .ok (.invokevirtual 33, 3) := by decide +kernel
theorem d_RuleText_read_47 : decode b_RuleText_read 47 = .ok (.istore 5, 2) := by decide +kernel
theorem d_RuleText_read_49 : decode b_RuleText_read 49 = .ok (.iload 5, 2) := by decide +kernel
theorem d_RuleText_read_51 : decode b_RuleText_read 51 = .ok (.iload_n 3, 1) := by decide +kernel
theorem d_RuleText_read_52 : decode b_RuleText_read 52 = .ok (.iconst 1, 1) := by decide +kernel
theorem d_RuleText_read_53 : decode b_RuleText_read 53 = .ok (.iadd, 1) := by decide +kernel
theorem d_RuleText_read_54 : decode b_RuleText_read 54 = .ok (.if_icmp .ne 9, 3) := by decide +kernel
theorem d_RuleText_read_57 : decode b_RuleText_read 57 = .ok (.iload 5, 2) := by decide +kernel
theorem d_RuleText_read_59 : decode b_RuleText_read 59 = .ok (.invokestatic 30, 3) := by decide +kernel
theorem d_RuleText_read_62 : decode b_RuleText_read 62 = .ok (.ireturn, 1) := by decide +kernel
theorem d_RuleText_read_63 : decode b_RuleText_read 63 = .ok (.aload_n 0, 1) := by decide +kernel
theorem d_RuleText_read_64 : decode b_RuleText_read 64 = .ok (.iload_n 3, 1) := by decide +kernel
theorem d_RuleText_read_65 : decode b_RuleText_read 65 = .ok (.iconst 1, 1) := by decide +kernel
theorem d_RuleText_read_66 : decode b_RuleText_read 66 = .ok (.iadd, 1) := by decide +kernel
theorem d_RuleText_read_67 : decode b_RuleText_read 67 = .ok (.iload 5, 2) := by decide +kernel
theorem d_RuleText_read_69 : decode b_RuleText_read 69 = .ok (.invokevirtual 36, 3) := by decide +kernel
theorem d_RuleText_read_72 : decode b_RuleText_read 72 = .ok (.istore 6, 2) := by decide +kernel
theorem d_RuleText_read_74 : decode b_RuleText_read 74 = .ok (.iload 4, 2) := by decide +kernel
theorem d_RuleText_read_76 : decode b_RuleText_read 76 = .ok (.iconst 4, 1) := by decide +kernel
theorem d_RuleText_read_77 : decode b_RuleText_read 77 = .ok (.if_icmp .ne 17, 3) := by decide +kernel
theorem d_RuleText_read_80 : decode b_RuleText_read 80 = .ok (.iload 6, 2) := by decide +kernel
theorem d_RuleText_read_82 : decode b_RuleText_read 82 = .ok (.iconst 1, 1) := by decide +kernel
theorem d_RuleText_read_83 : decode b_RuleText_read 83 = .ok (.if_icmp .le 11, 3) := by decide +kernel
theorem d_RuleText_read_86 : decode b_RuleText_read 86 = .ok (.iload 5, 2) := by decide +kernel
theorem d_RuleText_read_88 : decode b_RuleText_read 88 = .ok (.iconst 1, 1) := by decide +kernel
theorem d_RuleText_read_89 : decode b_RuleText_read 89 = .ok (.isub, 1) := by decide +kernel
theorem d_RuleText_read_90 : decode b_RuleText_read 90 = .ok (.invokestatic 30, 3) := by decide +kernel
theorem d_RuleText_read_93 : decode b_RuleText_read 93 = .ok (.ireturn, 1) := by decide +kernel
theorem d_RuleText_read_94 : decode b_RuleText_read 94 = .ok (.iload 5, 2) := by decide +kernel
theorem d_RuleText_read_96 : decode b_RuleText_read 96 = .ok (.aload_n 0, 1) := by decide +kernel
theorem d_RuleText_read_97 : decode b_RuleText_read 97 = .ok (.getfield 13, 3) := by decide +kernel
theorem d_RuleText_read_100 : decode b_RuleText_read 100 = .ok (.if_icmp .ge 15, 3) := by decide +kernel
theorem d_RuleText_read_103 : decode b_RuleText_read 103 = .ok (.aload_n 0, 1) := by decide +kernel
theorem d_RuleText_read_104 : decode b_RuleText_read 104 = .ok (.getfield 9, 3) := by decide +kernel
theorem d_RuleText_read_107 : decode b_RuleText_read 107 = .ok (.iload 5, 2) := by decide +kernel
theorem d_RuleText_read_109 : decode b_RuleText_read 109 = .ok (.iaload, 1) := by decide +kernel
theorem d_RuleText_read_110 : decode b_RuleText_read 110 = .ok (.bipush 59, 2) := by decide +kernel
theorem d_RuleText_read_112 : decode b_RuleText_read 112 = .ok (.if_icmp .eq 9, 3) := by decide +kernel
theorem d_RuleText_read_115 : decode b_RuleText_read 115 = .ok (.iload 5, 2) := by decide +kernel
theorem d_RuleText_read_117 : decode b_RuleText_read 117 = .ok (.invokestatic 30, 3) := by decide +kernel
theorem d_RuleText_read_120 : decode b_RuleText_read 120 = .ok (.ireturn, 1) := by decide +kernel
theorem d_RuleText_read_121 : decode b_RuleText_read 121 = .ok (.aload_n 1, 1) := by decide +kernel
theorem d_RuleText_read_122 : decode b_RuleText_read 122 = .ok (.iload 4, 2) := by decide +kernel
theorem d_RuleText_read_124 : decode b_RuleText_read 124 = .ok (.iload 6, 2) := by decide +kernel
theorem d_RuleText_read_126 : decode b_RuleText_read 126 = .ok (.invokevirtual 40, 3) := by decide +kernel
theorem d_RuleText_read_129 : decode b_RuleText_read 129 = .ok (.iinc 2 1, 3) := by decide +kernel
theorem d_RuleText_read_132 : decode b_RuleText_read 132 = .ok (.iload 5, 2) := by decide +kernel
theorem d_RuleText_read_134 : decode b_RuleText_read 134 = .ok (.iconst 1, 1) := by decide +kernel
theorem d_RuleText_read_135 : decode b_RuleText_read 135 = .ok (.iadd, 1) := by decide +kernel
theorem d_RuleText_read_136 : decode b_RuleText_read 136 = .ok (.istore_n 3, 1) := by decide +kernel
theorem d_RuleText_read_137 : decode b_RuleText_read 137 = .ok (.goto (-129), 3) := by decide +kernel
theorem d_RuleText_read_140 : decode b_RuleText_read 140 = .ok (.aload_n 1, 1) := by decide +kernel
theorem d_RuleText_read_141 : decode b_RuleText_read 141 = .ok (.invokevirtual 44, 3) := by decide +kernel
theorem d_RuleText_read_144 : decode b_RuleText_read 144 = .ok (.iload_n 2, 1) := by decide +kernel
theorem d_RuleText_read_145 : decode b_RuleText_read 145 = .ok (.ireturn, 1) := by decide +kernel
theorem d_RuleText_refusal_0 : decode b_RuleText_refusal 0 = .ok (.iconst (-1), 1) := by decide +kernel
theorem d_RuleText_refusal_1 : decode b_RuleText_refusal 1 = .ok (.iload_n 0, 1) := by decide +kernel
theorem d_RuleText_refusal_2 : decode b_RuleText_refusal 2 = .ok (.isub, 1) := by decide +kernel
theorem d_RuleText_refusal_3 : decode b_RuleText_refusal 3 = .ok (.ireturn, 1) := by decide +kernel
theorem d_RuleText_endOfDigits_0 : decode b_RuleText_endOfDigits 0 = .ok (.iload_n 1, 1) := by decide +kernel
theorem d_RuleText_endOfDigits_1 : decode b_RuleText_endOfDigits 1 = .ok (.istore_n 2, 1) := by decide +kernel
theorem d_RuleText_endOfDigits_2 : decode b_RuleText_endOfDigits 2 = .ok (.iload_n 2, 1) := by decide +kernel
theorem d_RuleText_endOfDigits_3 : decode b_RuleText_endOfDigits 3 = .ok (.aload_n 0, 1) := by decide +kernel
theorem d_RuleText_endOfDigits_4 : decode b_RuleText_endOfDigits 4 = .ok (.getfield 13, 3) := by decide +kernel
theorem d_RuleText_endOfDigits_7 : decode b_RuleText_endOfDigits 7 = .ok (.if_icmp .ge 38, 3) := by decide +kernel
theorem d_RuleText_endOfDigits_10 : decode b_RuleText_endOfDigits 10 = .ok (.iload_n 2, 1) := by decide +kernel
theorem d_RuleText_endOfDigits_11 : decode b_RuleText_endOfDigits 11 = .ok (.iload_n 1, 1) := by decide +kernel
theorem d_RuleText_endOfDigits_12 : decode b_RuleText_endOfDigits 12 = .ok (.iconst 4, 1) := by decide +kernel
theorem d_RuleText_endOfDigits_13 : decode b_RuleText_endOfDigits 13 = .ok (.iadd, 1) := by decide +kernel
theorem d_RuleText_endOfDigits_14 : decode b_RuleText_endOfDigits 14 = .ok (.if_icmp .ge 31, 3) := by decide +kernel
theorem d_RuleText_endOfDigits_17 : decode b_RuleText_endOfDigits 17 = .ok (.aload_n 0, 1) := by decide +kernel
theorem d_RuleText_endOfDigits_18 : decode b_RuleText_endOfDigits 18 = .ok (.getfield 9, 3) := by decide +kernel
theorem d_RuleText_endOfDigits_21 : decode b_RuleText_endOfDigits 21 = .ok (.iload_n 2, 1) := by decide +kernel
theorem d_RuleText_endOfDigits_22 : decode b_RuleText_endOfDigits 22 = .ok (.iaload, 1) := by decide +kernel
theorem d_RuleText_endOfDigits_23 : decode b_RuleText_endOfDigits 23 = .ok (.bipush 48, 2) := by decide +kernel
theorem d_RuleText_endOfDigits_25 : decode b_RuleText_endOfDigits 25 = .ok (.if_icmp .lt 20, 3) := by decide +kernel
theorem d_RuleText_endOfDigits_28 : decode b_RuleText_endOfDigits 28 = .ok (.aload_n 0, 1) := by decide +kernel
theorem d_RuleText_endOfDigits_29 : decode b_RuleText_endOfDigits 29 = .ok (.getfield 9, 3) := by decide +kernel
theorem d_RuleText_endOfDigits_32 : decode b_RuleText_endOfDigits 32 = .ok (.iload_n 2, 1) := by decide +kernel
theorem d_RuleText_endOfDigits_33 : decode b_RuleText_endOfDigits 33 = .ok (.iaload, 1) := by decide +kernel
theorem d_RuleText_endOfDigits_34 : decode b_RuleText_endOfDigits 34 = .ok (.bipush 57, 2) := by decide +kernel
theorem d_RuleText_endOfDigits_36 : decode b_RuleText_endOfDigits 36 = .ok (.if_icmp .gt 9, 3) := by decide +kernel
theorem d_RuleText_endOfDigits_39 : decode b_RuleText_endOfDigits 39 = .ok (.iinc 2 1, 3) := by decide +kernel
theorem d_RuleText_endOfDigits_42 : decode b_RuleText_endOfDigits 42 = .ok (.goto (-40), 3) := by decide +kernel
theorem d_RuleText_endOfDigits_45 : decode b_RuleText_endOfDigits 45 = .ok (.iload_n 2, 1) := by decide +kernel
theorem d_RuleText_endOfDigits_46 : decode b_RuleText_endOfDigits 46 = .ok (.ireturn, 1) := by decide +kernel
theorem d_RuleText_number_0 : decode b_RuleText_number 0 = .ok (.iconst 0, 1) := by decide +kernel
theorem d_RuleText_number_1 : decode b_RuleText_number 1 = .ok (.istore_n 3, 1) := by decide +kernel
theorem d_RuleText_number_2 : decode b_RuleText_number 2 = .ok (.iload_n 1, 1) := by decide +kernel
theorem d_RuleText_number_3 : decode b_RuleText_number 3 = .ok (.istore 4, 2) := by decide +kernel
theorem d_RuleText_number_5 : decode b_RuleText_number 5 = .ok (.iload 4, 2) := by decide +kernel
theorem d_RuleText_number_7 : decode b_RuleText_number 7 = .ok (.iload_n 2, 1) := by decide +kernel
theorem d_RuleText_number_8 : decode b_RuleText_number 8 = .ok (.if_icmp .ge 25, 3) := by decide +kernel
theorem d_RuleText_number_11 : decode b_RuleText_number 11 = .ok (.iload_n 3, 1) := by decide +kernel
theorem d_RuleText_number_12 : decode b_RuleText_number 12 = .ok (.bipush 10, 2) := by decide +kernel
theorem d_RuleText_number_14 : decode b_RuleText_number 14 = .ok (.imul, 1) := by decide +kernel
theorem d_RuleText_number_15 : decode b_RuleText_number 15 = .ok (.aload_n 0, 1) := by decide +kernel
theorem d_RuleText_number_16 : decode b_RuleText_number 16 = .ok (.getfield 9, 3) := by decide +kernel
theorem d_RuleText_number_19 : decode b_RuleText_number 19 = .ok (.iload 4, 2) := by decide +kernel
theorem d_RuleText_number_21 : decode b_RuleText_number 21 = .ok (.iaload, 1) := by decide +kernel
theorem d_RuleText_number_22 : decode b_RuleText_number 22 = .ok (.bipush 48, 2) := by decide +kernel
theorem d_RuleText_number_24 : decode b_RuleText_number 24 = .ok (.isub, 1) := by decide +kernel
theorem d_RuleText_number_25 : decode b_RuleText_number 25 = .ok (.iadd, 1) := by decide +kernel
theorem d_RuleText_number_26 : decode b_RuleText_number 26 = .ok (.istore_n 3, 1) := by decide +kernel
theorem d_RuleText_number_27 : decode b_RuleText_number 27 = .ok (.iinc 4 1, 3) := by decide +kernel
theorem d_RuleText_number_30 : decode b_RuleText_number 30 = .ok (.goto (-25), 3) := by decide +kernel
theorem d_RuleText_number_33 : decode b_RuleText_number 33 = .ok (.iload_n 3, 1) := by decide +kernel
theorem d_RuleText_number_34 : decode b_RuleText_number 34 = .ok (.ireturn, 1) := by decide +kernel
