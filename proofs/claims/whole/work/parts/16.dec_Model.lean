theorem d_Model_init_0 : decode b_Model_init 0 = .ok (.aload_n 0, 1) := by decide +kernel
theorem d_Model_init_1 : decode b_Model_init 1 = .ok (.invokespecial 1, 3) := by decide +kernel
theorem d_Model_init_4 : decode b_Model_init 4 = .ok (.aload_n 0, 1) := by decide +kernel
theorem d_Model_init_5 : decode b_Model_init 5 = .ok (.bipush 20, 2) := by decide +kernel
theorem d_Model_init_7 : decode b_Model_init 7 = .ok (.newarray .int, 2) := by decide +kernel
theorem d_Model_init_9 : decode b_Model_init 9 = .ok (.putfield 7, 3) := by decide +kernel
theorem d_Model_init_12 : decode b_Model_init 12 = .ok (.aload_n 0, 1) := by decide +kernel
theorem d_Model_init_13 : decode b_Model_init 13 = .ok (.bipush 20, 2) := by decide +kernel
theorem d_Model_init_15 : decode b_Model_init 15 = .ok (.newarray .int, 2) := by decide +kernel
theorem d_Model_init_17 : decode b_Model_init 17 = .ok (.putfield 13, 3) := by decide +kernel
theorem d_Model_init_20 : decode b_Model_init 20 = .ok (.aload_n 0, 1) := by decide +kernel
theorem d_Model_init_21 : decode b_Model_init 21 = .ok (.sipush 300, 3) := by decide +kernel
theorem d_Model_init_24 : decode b_Model_init 24 = .ok (.newarray .int, 2) := by decide +kernel
theorem d_Model_init_26 : decode b_Model_init 26 = .ok (.putfield 16, 3) := by decide +kernel
theorem d_Model_init_29 : decode b_Model_init 29 = .ok (.aload_n 0, 1) := by decide +kernel
theorem d_Model_init_30 : decode b_Model_init 30 = .ok (.sipush 300, 3) := by decide +kernel
theorem d_Model_init_33 : decode b_Model_init 33 = .ok (.newarray .int, 2) := by decide +kernel
theorem d_Model_init_35 : decode b_Model_init 35 = .ok (.putfield 19, 3) := by decide +kernel
theorem d_Model_init_38 : decode b_Model_init 38 = .ok (.aload_n 0, 1) := by decide +kernel
theorem d_Model_init_39 : decode b_Model_init 39 = .ok (.sipush 300, 3) := by decide +kernel
theorem d_Model_init_42 : decode b_Model_init 42 = .ok (.newarray .int, 2) := by decide +kernel
theorem d_Model_init_44 : decode b_Model_init 44 = .ok (.putfield 22, 3) := by decide +kernel
theorem d_Model_init_47 : decode b_Model_init 47 = .ok (.aload_n 0, 1) := by decide +kernel
theorem d_Model_init_48 : decode b_Model_init 48 = .ok (.sipush 300, 3) := by decide +kernel
theorem d_Model_init_51 : decode b_Model_init 51 = .ok (.newarray .int, 2) := by decide +kernel
theorem d_Model_init_53 : decode b_Model_init 53 = .ok (.putfield 25, 3) := by decide +kernel
theorem d_Model_init_56 : decode b_Model_init 56 = .ok (.aload_n 0, 1) := by decide +kernel
theorem d_Model_init_57 : decode b_Model_init 57 = .ok (.sipush 300, 3) := by decide +kernel
theorem d_Model_init_60 : decode b_Model_init 60 = .ok (.newarray .boolean, 2) := by decide +kernel
theorem d_Model_init_62 : decode b_Model_init 62 = .ok (.putfield 28, 3) := by decide +kernel
theorem d_Model_init_65 : decode b_Model_init 65 = .ok (.aload_n 0, 1) := by decide +kernel
theorem d_Model_init_66 : decode b_Model_init 66 = .ok (.iconst 5, 1) := by decide +kernel
theorem d_Model_init_67 : decode b_Model_init 67 = .ok (.newarray .int, 2) := by decide +kernel
theorem d_Model_init_69 : decode b_Model_init 69 = .ok (.putfield 32, 3) := by decide +kernel
theorem d_Model_init_72 : decode b_Model_init 72 = .ok (.aload_n 0, 1) := by decide +kernel
theorem d_Model_init_73 : decode b_Model_init 73 = .ok (.iconst 5, 1) := by decide +kernel
theorem d_Model_init_74 : decode b_Model_init 74 = .ok (.newarray .int, 2) := by decide +kernel
theorem d_Model_init_76 : decode b_Model_init 76 = .ok (.putfield 35, 3) := by decide +kernel
theorem d_Model_init_79 : decode b_Model_init 79 = .ok (.aload_n 0, 1) := by decide +kernel
theorem d_Model_init_80 : decode b_Model_init 80 = .ok (.bipush 100, 2) := by decide +kernel
theorem d_Model_init_82 : decode b_Model_init 82 = .ok (.newarray .int, 2) := by decide +kernel
theorem d_Model_init_84 : decode b_Model_init 84 = .ok (.putfield 38, 3) := by decide +kernel
theorem d_Model_init_87 : decode b_Model_init 87 = .ok (.aload_n 0, 1) := by decide +kernel
theorem d_Model_init_88 : decode b_Model_init 88 = .ok (.bipush 6, 2) := by decide +kernel
theorem d_Model_init_90 : decode b_Model_init 90 = .ok (.newarray .int, 2) := by decide +kernel
theorem d_Model_init_92 : decode b_Model_init 92 = .ok (.putfield 41, 3) := by decide +kernel
theorem d_Model_init_95 : decode b_Model_init 95 = .ok (.aload_n 0, 1) := by decide +kernel
theorem d_Model_init_96 : decode b_Model_init 96 = .ok (.bipush 6, 2) := by decide +kernel
theorem d_Model_init_98 : decode b_Model_init 98 = .ok (.newarray .int, 2) := by decide +kernel
theorem d_Model_init_100 : decode b_Model_init 100 = .ok (.putfield 44, 3) := by decide +kernel
theorem d_Model_init_103 : decode b_Model_init 103 = .ok (.aload_n 0, 1) := by decide +kernel
theorem d_Model_init_104 : decode b_Model_init 104 = .ok (.bipush 20, 2) := by decide +kernel
theorem d_Model_init_106 : decode b_Model_init 106 = .ok (.newarray .boolean, 2) := by decide +kernel
theorem d_Model_init_108 : decode b_Model_init 108 = .ok (.putfield 47, 3) := by decide +kernel
theorem d_Model_init_111 : decode b_Model_init 111 = .ok (.aload_n 0, 1) := by decide +kernel
theorem d_Model_init_112 : decode b_Model_init 112 = .ok (.sipush 2001, 3) := by decide +kernel
theorem d_Model_init_115 : decode b_Model_init 115 = .ok (.newarray .boolean, 2) := by decide +kernel
theorem d_Model_init_117 : decode b_Model_init 117 = .ok (.putfield 50, 3) := by decide +kernel
theorem d_Model_init_120 : decode b_Model_init 120 = .ok (.aload_n 0, 1) := by decide +kernel
theorem d_Model_init_121 : decode b_Model_init 121 = .ok (.bipush 20, 2) := by decide +kernel
theorem d_Model_init_123 : decode b_Model_init 123 = .ok (.newarray .long, 2) := by decide +kernel
theorem d_Model_init_125 : decode b_Model_init 125 = .ok (.putfield 53, 3) := by decide +kernel
theorem d_Model_init_128 : decode b_Model_init 128 = .ok (.aload_n 0, 1) := by decide +kernel
theorem d_Model_init_129 : decode b_Model_init 129 = .ok (.bipush 20, 2) := by decide +kernel
theorem d_Model_init_131 : decode b_Model_init 131 = .ok (.newarray .long, 2) := by decide +kernel
theorem d_Model_init_133 : decode b_Model_init 133 = .ok (.putfield 57, 3) := by decide +kernel
theorem d_Model_init_136 : decode b_Model_init 136 = .ok (.aload_n 0, 1) := by decide +kernel
theorem d_Model_init_137 : decode b_Model_init 137 = .ok (.getfield 32, 3) := by decide +kernel
theorem d_Model_init_140 : decode b_Model_init 140 = .ok (.iconst 0, 1) := by decide +kernel
theorem d_Model_init_141 : decode b_Model_init 141 = .ok (.bipush 100, 2) := by decide +kernel
theorem d_Model_init_143 : decode b_Model_init 143 = .ok (.iastore, 1) := by decide +kernel
theorem d_Model_init_144 : decode b_Model_init 144 = .ok (.aload_n 0, 1) := by decide +kernel
theorem d_Model_init_145 : decode b_Model_init 145 = .ok (.getfield 32, 3) := by decide +kernel
theorem d_Model_init_148 : decode b_Model_init 148 = .ok (.iconst 3, 1) := by decide +kernel
theorem d_Model_init_149 : decode b_Model_init 149 = .ok (.sipush 3600, 3) := by decide +kernel
theorem d_Model_init_152 : decode b_Model_init 152 = .ok (.iastore, 1) := by decide +kernel
theorem d_Model_init_153 : decode b_Model_init 153 = .ok (.aload_n 0, 1) := by decide +kernel
theorem d_Model_init_154 : decode b_Model_init 154 = .ok (.getfield 32, 3) := by decide +kernel
theorem d_Model_init_157 : decode b_Model_init 157 = .ok (.iconst 4, 1) := by decide +kernel
theorem d_Model_init_158 : decode b_Model_init 158 = .ok (.iconst 1, 1) := by decide +kernel
theorem d_Model_init_159 : decode b_Model_init 159 = .ok (.iastore, 1) := by decide +kernel
theorem d_Model_init_160 : decode b_Model_init 160 = .ok (.return_, 1) := by decide +kernel
theorem d_Model_isPuzzle_0 : decode b_Model_isPuzzle 0 = .ok (.iload_n 1, 1) := by decide +kernel
theorem d_Model_isPuzzle_1 : decode b_Model_isPuzzle 1 = .ok (.ifCond .lt 15, 3) := by decide +kernel
theorem d_Model_isPuzzle_4 : decode b_Model_isPuzzle 4 = .ok (.iload_n 1, 1) := by decide +kernel
theorem d_Model_isPuzzle_5 : decode b_Model_isPuzzle 5 = .ok (.aload_n 0, 1) := by decide +kernel
theorem d_Model_isPuzzle_6 : decode b_Model_isPuzzle 6 = .ok (.getfield 64, 3) := by decide +kernel
theorem d_Model_isPuzzle_9 : decode b_Model_isPuzzle 9 = .ok (.if_icmp .ge 7, 3) := by decide +kernel
theorem d_Model_isPuzzle_12 : decode b_Model_isPuzzle 12 = .ok (.iconst 1, 1) := by decide +kernel
theorem d_Model_isPuzzle_13 : decode b_Model_isPuzzle 13 = .ok (.goto 4, 3) := by decide +kernel
theorem d_Model_isPuzzle_16 : decode b_Model_isPuzzle 16 = .ok (.iconst 0, 1) := by decide +kernel
theorem d_Model_isPuzzle_17 : decode b_Model_isPuzzle 17 = .ok (.ireturn, 1) := by decide +kernel
theorem d_Model_isPerson_0 : decode b_Model_isPerson 0 = .ok (.iload_n 1, 1) := by decide +kernel
theorem d_Model_isPerson_1 : decode b_Model_isPerson 1 = .ok (.ifCond .lt 15, 3) := by decide +kernel
theorem d_Model_isPerson_4 : decode b_Model_isPerson 4 = .ok (.iload_n 1, 1) := by decide +kernel
theorem d_Model_isPerson_5 : decode b_Model_isPerson 5 = .ok (.aload_n 0, 1) := by decide +kernel
theorem d_Model_isPerson_6 : decode b_Model_isPerson 6 = .ok (.getfield 67, 3) := by decide +kernel
theorem d_Model_isPerson_9 : decode b_Model_isPerson 9 = .ok (.if_icmp .ge 7, 3) := by decide +kernel
theorem d_Model_isPerson_12 : decode b_Model_isPerson 12 = .ok (.iconst 1, 1) := by decide +kernel
theorem d_Model_isPerson_13 : decode b_Model_isPerson 13 = .ok (.goto 4, 3) := by decide +kernel
theorem d_Model_isPerson_16 : decode b_Model_isPerson 16 = .ok (.iconst 0, 1) := by decide +kernel
theorem d_Model_isPerson_17 : decode b_Model_isPerson 17 = .ok (.ireturn, 1) := by decide +kernel
theorem d_Model_isRow_0 : decode b_Model_isRow 0 = .ok (.iload_n 1, 1) := by decide +kernel
theorem d_Model_isRow_1 : decode b_Model_isRow 1 = .ok (.ifCond .lt 15, 3) := by decide +kernel
theorem d_Model_isRow_4 : decode b_Model_isRow 4 = .ok (.iload_n 1, 1) := by decide +kernel
theorem d_Model_isRow_5 : decode b_Model_isRow 5 = .ok (.aload_n 0, 1) := by decide +kernel
theorem d_Model_isRow_6 : decode b_Model_isRow 6 = .ok (.getfield 70, 3) := by decide +kernel
theorem d_Model_isRow_9 : decode b_Model_isRow 9 = .ok (.if_icmp .ge 7, 3) := by decide +kernel
theorem d_Model_isRow_12 : decode b_Model_isRow 12 = .ok (.iconst 1, 1) := by decide +kernel
theorem d_Model_isRow_13 : decode b_Model_isRow 13 = .ok (.goto 4, 3) := by decide +kernel
theorem d_Model_isRow_16 : decode b_Model_isRow 16 = .ok (.iconst 0, 1) := by decide +kernel
theorem d_Model_isRow_17 : decode b_Model_isRow 17 = .ok (.ireturn, 1) := by decide +kernel
theorem d_Model_puzzle_0 : decode b_Model_puzzle 0 = .ok (.aload_n 0, 1) := by decide +kernel
theorem d_Model_puzzle_1 : decode b_Model_puzzle 1 = .ok (.iconst 0, 1) := by decide +kernel
theorem d_Model_puzzle_2 : decode b_Model_puzzle 2 = .ok (.putfield 60, 3) := by decide +kernel
theorem d_Model_puzzle_5 : decode b_Model_puzzle 5 = .ok (.iload_n 1, 1) := by decide +kernel
theorem d_Model_puzzle_6 : decode b_Model_puzzle 6 = .ok (.iconst 1, 1) := by decide +kernel
theorem d_Model_puzzle_7 : decode b_Model_puzzle 7 = .ok (.if_icmp .lt 18, 3) := by decide +kernel
theorem d_Model_puzzle_10 : decode b_Model_puzzle 10 = .ok (.iload_n 1, 1) := by decide +kernel
theorem d_Model_puzzle_11 : decode b_Model_puzzle 11 = .ok (.bipush 100, 2) := by decide +kernel
theorem d_Model_puzzle_13 : decode b_Model_puzzle 13 = .ok (.if_icmp .gt 12, 3) := by decide +kernel
theorem d_Model_puzzle_16 : decode b_Model_puzzle 16 = .ok (.aload_n 0, 1) := by decide +kernel
theorem d_Model_puzzle_17 : decode b_Model_puzzle 17 = .ok (.getfield 64, 3) := by decide +kernel
theorem d_Model_puzzle_20 : decode b_Model_puzzle 20 = .ok (.bipush 20, 2) := by decide +kernel
theorem d_Model_puzzle_22 : decode b_Model_puzzle 22 = .ok (.if_icmp .ne 5, 3) := by decide +kernel
theorem d_Model_puzzle_25 : decode b_Model_puzzle 25 = .ok (.iconst (-1), 1) := by decide +kernel
theorem d_Model_puzzle_26 : decode b_Model_puzzle 26 = .ok (.ireturn, 1) := by decide +kernel
theorem d_Model_puzzle_27 : decode b_Model_puzzle 27 = .ok (.aload_n 0, 1) := by decide +kernel
theorem d_Model_puzzle_28 : decode b_Model_puzzle 28 = .ok (.getfield 7, 3) := by decide +kernel
theorem d_Model_puzzle_31 : decode b_Model_puzzle 31 = .ok (.aload_n 0, 1) := by decide +kernel
theorem d_Model_puzzle_32 : decode b_Model_puzzle 32 = .ok (.getfield 64, 3) := by decide +kernel
theorem d_Model_puzzle_35 : decode b_Model_puzzle 35 = .ok (.iload_n 1, 1) := by decide +kernel
theorem d_Model_puzzle_36 : decode b_Model_puzzle 36 = .ok (.iastore, 1) := by decide +kernel
theorem d_Model_puzzle_37 : decode b_Model_puzzle 37 = .ok (.aload_n 0, 1) := by decide +kernel
theorem d_Model_puzzle_38 : decode b_Model_puzzle 38 = .ok (.dup, 1) := by decide +kernel
theorem d_Model_puzzle_39 : decode b_Model_puzzle 39 = .ok (.getfield 64, 3) := by decide +kernel
theorem d_Model_puzzle_42 : decode b_Model_puzzle 42 = .ok (.iconst 1, 1) := by decide +kernel
theorem d_Model_puzzle_43 : decode b_Model_puzzle 43 = .ok (.iadd, 1) := by decide +kernel
theorem d_Model_puzzle_44 : decode b_Model_puzzle 44 = .ok (.putfield 64, 3) := by decide +kernel
theorem d_Model_puzzle_47 : decode b_Model_puzzle 47 = .ok (.aload_n 0, 1) := by decide +kernel
theorem d_Model_puzzle_48 : decode b_Model_puzzle 48 = .ok (.getfield 64, 3) := by decide +kernel
theorem d_Model_puzzle_51 : decode b_Model_puzzle 51 = .ok (.iconst 1, 1) := by decide +kernel
theorem d_Model_puzzle_52 : decode b_Model_puzzle 52 = .ok (.isub, 1) := by decide +kernel
theorem d_Model_puzzle_53 : decode b_Model_puzzle 53 = .ok (.ireturn, 1) := by decide +kernel
theorem d_Model_person_0 : decode b_Model_person 0 = .ok (.aload_n 0, 1) := by decide +kernel
theorem d_Model_person_1 : decode b_Model_person 1 = .ok (.iconst 0, 1) := by decide +kernel
theorem d_Model_person_2 : decode b_Model_person 2 = .ok (.putfield 60, 3) := by decide +kernel
theorem d_Model_person_5 : decode b_Model_person 5 = .ok (.aload_n 0, 1) := by decide +kernel
theorem d_Model_person_6 : decode b_Model_person 6 = .ok (.getfield 67, 3) := by decide +kernel
theorem d_Model_person_9 : decode b_Model_person 9 = .ok (.bipush 20, 2) := by decide +kernel
theorem d_Model_person_11 : decode b_Model_person 11 = .ok (.if_icmp .ne 5, 3) := by decide +kernel
theorem d_Model_person_14 : decode b_Model_person 14 = .ok (.iconst (-1), 1) := by decide +kernel
theorem d_Model_person_15 : decode b_Model_person 15 = .ok (.ireturn, 1) := by decide +kernel
theorem d_Model_person_16 : decode b_Model_person 16 = .ok (.aload_n 0, 1) := by decide +kernel
theorem d_Model_person_17 : decode b_Model_person 17 = .ok (.getfield 13, 3) := by decide +kernel
theorem d_Model_person_20 : decode b_Model_person 20 = .ok (.aload_n 0, 1) := by decide +kernel
theorem d_Model_person_21 : decode b_Model_person 21 = .ok (.getfield 67, 3) := by decide +kernel
theorem d_Model_person_24 : decode b_Model_person 24 = .ok (.iconst (-1), 1) := by decide +kernel
theorem d_Model_person_25 : decode b_Model_person 25 = .ok (.iastore, 1) := by decide +kernel
theorem d_Model_person_26 : decode b_Model_person 26 = .ok (.aload_n 0, 1) := by decide +kernel
theorem d_Model_person_27 : decode b_Model_person 27 = .ok (.dup, 1) := by decide +kernel
theorem d_Model_person_28 : decode b_Model_person 28 = .ok (.getfield 67, 3) := by decide +kernel
theorem d_Model_person_31 : decode b_Model_person 31 = .ok (.iconst 1, 1) := by decide +kernel
theorem d_Model_person_32 : decode b_Model_person 32 = .ok (.iadd, 1) := by decide +kernel
theorem d_Model_person_33 : decode b_Model_person 33 = .ok (.putfield 67, 3) := by decide +kernel
theorem d_Model_person_36 : decode b_Model_person 36 = .ok (.aload_n 0, 1) := by decide +kernel
theorem d_Model_person_37 : decode b_Model_person 37 = .ok (.getfield 67, 3) := by decide +kernel
theorem d_Model_person_40 : decode b_Model_person 40 = .ok (.iconst 1, 1) := by decide +kernel
theorem d_Model_person_41 : decode b_Model_person 41 = .ok (.isub, 1) := by decide +kernel
theorem d_Model_person_42 : decode b_Model_person 42 = .ok (.ireturn, 1) := by decide +kernel
theorem d_Model_unit_0 : decode b_Model_unit 0 = .ok (.aload_n 0, 1) := by decide +kernel
theorem d_Model_unit_1 : decode b_Model_unit 1 = .ok (.iconst 0, 1) := by decide +kernel
theorem d_Model_unit_2 : decode b_Model_unit 2 = .ok (.putfield 60, 3) := by decide +kernel
theorem d_Model_unit_5 : decode b_Model_unit 5 = .ok (.iload_n 1, 1) := by decide +kernel
theorem d_Model_unit_6 : decode b_Model_unit 6 = .ok (.ifCond .lt 19, 3) := by decide +kernel
theorem d_Model_unit_9 : decode b_Model_unit 9 = .ok (.iload_n 1, 1) := by decide +kernel
theorem d_Model_unit_10 : decode b_Model_unit 10 = .ok (.sipush 255, 3) := by decide +kernel
theorem d_Model_unit_13 : decode b_Model_unit 13 = .ok (.if_icmp .gt 12, 3) := by decide +kernel
theorem d_Model_unit_16 : decode b_Model_unit 16 = .ok (.aload_n 0, 1) := by decide +kernel
theorem d_Model_unit_17 : decode b_Model_unit 17 = .ok (.getfield 73, 3) := by decide +kernel
theorem d_Model_unit_20 : decode b_Model_unit 20 = .ok (.bipush 100, 2) := by decide +kernel
theorem d_Model_unit_22 : decode b_Model_unit 22 = .ok (.if_icmp .ne 5, 3) := by decide +kernel
theorem d_Model_unit_25 : decode b_Model_unit 25 = .ok (.iconst 0, 1) := by decide +kernel
theorem d_Model_unit_26 : decode b_Model_unit 26 = .ok (.ireturn, 1) := by decide +kernel
theorem d_Model_unit_27 : decode b_Model_unit 27 = .ok (.aload_n 0, 1) := by decide +kernel
theorem d_Model_unit_28 : decode b_Model_unit 28 = .ok (.getfield 38, 3) := by decide +kernel
theorem d_Model_unit_31 : decode b_Model_unit 31 = .ok (.aload_n 0, 1) := by decide +kernel
theorem d_Model_unit_32 : decode b_Model_unit 32 = .ok (.getfield 73, 3) := by decide +kernel
theorem d_Model_unit_35 : decode b_Model_unit 35 = .ok (.iload_n 1, 1) := by decide +kernel
theorem d_Model_unit_36 : decode b_Model_unit 36 = .ok (.iastore, 1) := by decide +kernel
theorem d_Model_unit_37 : decode b_Model_unit 37 = .ok (.aload_n 0, 1) := by decide +kernel
theorem d_Model_unit_38 : decode b_Model_unit 38 = .ok (.dup, 1) := by decide +kernel
theorem d_Model_unit_39 : decode b_Model_unit 39 = .ok (.getfield 73, 3) := by decide +kernel
theorem d_Model_unit_42 : decode b_Model_unit 42 = .ok (.iconst 1, 1) := by decide +kernel
theorem d_Model_unit_43 : decode b_Model_unit 43 = .ok (.iadd, 1) := by decide +kernel
theorem d_Model_unit_44 : decode b_Model_unit 44 = .ok (.putfield 73, 3) := by decide +kernel
theorem d_Model_unit_47 : decode b_Model_unit 47 = .ok (.iconst 1, 1) := by decide +kernel
theorem d_Model_unit_48 : decode b_Model_unit 48 = .ok (.ireturn, 1) := by decide +kernel
theorem d_Model_byteAt_0 : decode b_Model_byteAt 0 = .ok (.iload_n 1, 1) := by decide +kernel
theorem d_Model_byteAt_1 : decode b_Model_byteAt 1 = .ok (.aload_n 0, 1) := by decide +kernel
theorem d_Model_byteAt_2 : decode b_Model_byteAt 2 = .ok (.getfield 73, 3) := by decide +kernel
theorem d_Model_byteAt_5 : decode b_Model_byteAt 5 = .ok (.if_icmp .ge 12, 3) := by decide +kernel
theorem d_Model_byteAt_8 : decode b_Model_byteAt 8 = .ok (.aload_n 0, 1) := by decide +kernel
theorem d_Model_byteAt_9 : decode b_Model_byteAt 9 = .ok (.getfield 38, 3) := by decide +kernel
theorem d_Model_byteAt_12 : decode b_Model_byteAt 12 = .ok (.iload_n 1, 1) := by decide +kernel
theorem d_Model_byteAt_13 : decode b_Model_byteAt 13 = .ok (.iaload, 1) := by decide +kernel
theorem d_Model_byteAt_14 : decode b_Model_byteAt 14 = .ok (.goto 4, 3) := by decide +kernel
theorem d_Model_byteAt_17 : decode b_Model_byteAt 17 = .ok (.iconst (-1), 1) := by decide +kernel
theorem d_Model_byteAt_18 : decode b_Model_byteAt 18 = .ok (.ireturn, 1) := by decide +kernel
theorem d_Model_isDigit_0 : decode b_Model_isDigit 0 = .ok (.aload_n 0, 1) := by decide +kernel
theorem d_Model_isDigit_1 : decode b_Model_isDigit 1 = .ok (.iload_n 1, 1) := by decide +kernel
theorem d_Model_isDigit_2 : decode b_Model_isDigit 2 = .ok (.invokevirtual 76, 3) := by decide +kernel
theorem d_Model_isDigit_5 : decode b_Model_isDigit 5 = .ok (.bipush 48, 2) := by decide +kernel
theorem d_Model_isDigit_7 : decode b_Model_isDigit 7 = .ok (.if_icmp .lt 17, 3) := by decide +kernel
theorem d_Model_isDigit_10 : decode b_Model_isDigit 10 = .ok (.aload_n 0, 1) := by decide +kernel
theorem d_Model_isDigit_11 : decode b_Model_isDigit 11 = .ok (.iload_n 1, 1) := by decide +kernel
theorem d_Model_isDigit_12 : decode b_Model_isDigit 12 = .ok (.invokevirtual 76, 3) := by decide +kernel
theorem d_Model_isDigit_15 : decode b_Model_isDigit 15 = .ok (.bipush 57, 2) := by decide +kernel
theorem d_Model_isDigit_17 : decode b_Model_isDigit 17 = .ok (.if_icmp .gt 7, 3) := by decide +kernel
theorem d_Model_isDigit_20 : decode b_Model_isDigit 20 = .ok (.iconst 1, 1) := by decide +kernel
theorem d_Model_isDigit_21 : decode b_Model_isDigit 21 = .ok (.goto 4, 3) := by decide +kernel
theorem d_Model_isDigit_24 : decode b_Model_isDigit 24 = .ok (.iconst 0, 1) := by decide +kernel
theorem d_Model_isDigit_25 : decode b_Model_isDigit 25 = .ok (.ireturn, 1) := by decide +kernel
theorem d_Model_ruleOf_0 : decode b_Model_ruleOf 0 = .ok (.iload_n 0, 1) := by decide +kernel
theorem d_Model_ruleOf_1 : decode b_Model_ruleOf 1 = .ok (.lookupswitch 61 #[(68, 57), (70, 53), (80, 51), (84, 59), (87, 55)], 51) := by decide +kernel
theorem d_Model_ruleOf_52 : decode b_Model_ruleOf 52 = .ok (.iconst 0, 1) := by decide +kernel
theorem d_Model_ruleOf_53 : decode b_Model_ruleOf 53 = .ok (.ireturn, 1) := by decide +kernel
theorem d_Model_ruleOf_54 : decode b_Model_ruleOf 54 = .ok (.iconst 1, 1) := by decide +kernel
theorem d_Model_ruleOf_55 : decode b_Model_ruleOf 55 = .ok (.ireturn, 1) := by decide +kernel
theorem d_Model_ruleOf_56 : decode b_Model_ruleOf 56 = .ok (.iconst 2, 1) := by decide +kernel
theorem d_Model_ruleOf_57 : decode b_Model_ruleOf 57 = .ok (.ireturn, 1) := by decide +kernel
theorem d_Model_ruleOf_58 : decode b_Model_ruleOf 58 = .ok (.iconst 3, 1) := by decide +kernel
theorem d_Model_ruleOf_59 : decode b_Model_ruleOf 59 = .ok (.ireturn, 1) := by decide +kernel
theorem d_Model_ruleOf_60 : decode b_Model_ruleOf 60 = .ok (.iconst 4, 1) := by decide +kernel
theorem d_Model_ruleOf_61 : decode b_Model_ruleOf 61 = .ok (.ireturn, 1) := by decide +kernel
theorem d_Model_ruleOf_62 : decode b_Model_ruleOf 62 = .ok (.iconst (-1), 1) := by decide +kernel
theorem d_Model_ruleOf_63 : decode b_Model_ruleOf 63 = .ok (.ireturn, 1) := by decide +kernel
theorem d_Model_readRule_0 : decode b_Model_readRule 0 = .ok (.aload_n 0, 1) := by decide +kernel
theorem d_Model_readRule_1 : decode b_Model_readRule 1 = .ok (.iload_n 1, 1) := by decide +kernel
theorem d_Model_readRule_2 : decode b_Model_readRule 2 = .ok (.invokevirtual 76, 3) := by decide +kernel
theorem d_Model_readRule_5 : decode b_Model_readRule 5 = .ok (.invokestatic 80, 3) := by decide +kernel
theorem d_Model_readRule_8 : decode b_Model_readRule 8 = .ok (.istore_n 2, 1) := by decide +kernel
theorem d_Model_readRule_9 : decode b_Model_readRule 9 = .ok (.iload_n 1, 1) := by decide +kernel
theorem d_Model_readRule_10 : decode b_Model_readRule 10 = .ok (.iconst 1, 1) := by decide +kernel
theorem d_Model_readRule_11 : decode b_Model_readRule 11 = .ok (.iadd, 1) := by decide +kernel
theorem d_Model_readRule_12 : decode b_Model_readRule 12 = .ok (.istore_n 3, 1) := by decide +kernel
theorem d_Model_readRule_13 : decode b_Model_readRule 13 = .ok (.iconst 0, 1) := by decide +kernel
theorem d_Model_readRule_14 : decode b_Model_readRule 14 = .ok (.istore 4, 2) := by decide +kernel
theorem d_Model_readRule_16 : decode b_Model_readRule 16 = .ok (.aload_n 0, 1) := by decide +kernel
theorem d_Model_readRule_17 : decode b_Model_readRule 17 = .ok (.iload_n 3, 1) := by decide +kernel
theorem d_Model_readRule_18 : decode b_Model_readRule 18 = .ok (.invokevirtual 83, 3) := by decide +kernel
theorem d_Model_readRule_21 : decode b_Model_readRule 21 = .ok (.ifCond .eq 32, 3) := by decide +kernel
theorem d_Model_readRule_24 : decode b_Model_readRule 24 = .ok (.iload_n 3, 1) := by decide +kernel
theorem d_Model_readRule_25 : decode b_Model_readRule 25 = .ok (.iload_n 1, 1) := by decide +kernel
theorem d_Model_readRule_26 : decode b_Model_readRule 26 = .ok (.iconst 5, 1) := by decide +kernel
theorem d_Model_readRule_27 : decode b_Model_readRule 27 = .ok (.iadd, 1) := by decide +kernel
theorem d_Model_readRule_28 : decode b_Model_readRule 28 = .ok (.if_icmp .ge 25, 3) := by decide +kernel
theorem d_Model_readRule_31 : decode b_Model_readRule 31 = .ok (.bipush 10, 2) := by decide +kernel
theorem d_Model_readRule_33 : decode b_Model_readRule 33 = .ok (.iload 4, 2) := by decide +kernel
theorem d_Model_readRule_35 : decode b_Model_readRule 35 = .ok (.imul, 1) := by decide +kernel
theorem d_Model_readRule_36 : decode b_Model_readRule 36 = .ok (.aload_n 0, 1) := by decide +kernel
theorem d_Model_readRule_37 : decode b_Model_readRule 37 = .ok (.iload_n 3, 1) := by decide +kernel
theorem d_Model_readRule_38 : decode b_Model_readRule 38 = .ok (.invokevirtual 76, 3) := by decide +kernel
theorem d_Model_readRule_41 : decode b_Model_readRule 41 = .ok (.iadd, 1) := by decide +kernel
theorem d_Model_readRule_42 : decode b_Model_readRule 42 = .ok (.bipush 48, 2) := by decide +kernel
theorem d_Model_readRule_44 : decode b_Model_readRule 44 = .ok (.isub, 1) := by decide +kernel
theorem d_Model_readRule_45 : decode b_Model_readRule 45 = .ok (.istore 4, 2) := by decide +kernel
theorem d_Model_readRule_47 : decode b_Model_readRule 47 = .ok (.iinc 3 1, 3) := by decide +kernel
theorem d_Model_readRule_50 : decode b_Model_readRule 50 = .ok (.goto (-34), 3) := by decide +kernel
theorem d_Model_readRule_53 : decode b_Model_readRule 53 = .ok (.iload_n 2, 1) := by decide +kernel
theorem d_Model_readRule_54 : decode b_Model_readRule 54 = .ok (.ifCond .ge 11, 3) := by decide +kernel
theorem d_Model_readRule_57 : decode b_Model_readRule 57 = .ok (.aload_n 0, 1) := by decide +kernel
theorem d_Model_readRule_58 : decode b_Model_readRule 58 = .ok (.iload_n 1, 1) := by decide +kernel
theorem d_Model_readRule_59 : decode b_Model_readRule 59 = .ok (.putfield 87, 3) := by decide +kernel
theorem d_Model_readRule_62 : decode b_Model_readRule 62 = .ok (.goto 65, 3) := by decide +kernel
theorem d_Model_readRule_65 : decode b_Model_readRule 65 = .ok (.iload_n 3, 1) := by decide +kernel
theorem d_Model_readRule_66 : decode b_Model_readRule 66 = .ok (.iload_n 1, 1) := by decide +kernel
theorem d_Model_readRule_67 : decode b_Model_readRule 67 = .ok (.iconst 1, 1) := by decide +kernel
theorem d_Model_readRule_68 : decode b_Model_readRule 68 = .ok (.iadd, 1) := by decide +kernel
theorem d_Model_readRule_69 : decode b_Model_readRule 69 = .ok (.if_icmp .ne 11, 3) := by decide +kernel
theorem d_Model_readRule_72 : decode b_Model_readRule 72 = .ok (.aload_n 0, 1) := by decide +kernel
theorem d_Model_readRule_73 : decode b_Model_readRule 73 = .ok (.iload_n 3, 1) := by decide +kernel
theorem d_Model_readRule_74 : decode b_Model_readRule 74 = .ok (.putfield 87, 3) := by decide +kernel
theorem d_Model_readRule_77 : decode b_Model_readRule 77 = .ok (.goto 50, 3) := by decide +kernel
theorem d_Model_readRule_80 : decode b_Model_readRule 80 = .ok (.iload_n 2, 1) := by decide +kernel
theorem d_Model_readRule_81 : decode b_Model_readRule 81 = .ok (.iconst 4, 1) := by decide +kernel
theorem d_Model_readRule_82 : decode b_Model_readRule 82 = .ok (.if_icmp .ne 19, 3) := by decide +kernel
theorem d_Model_readRule_85 : decode b_Model_readRule 85 = .ok (.iload 4, 2) := by decide +kernel
theorem d_Model_readRule_87 : decode b_Model_readRule 87 = .ok (.iconst 1, 1) := by decide +kernel
theorem d_Model_readRule_88 : decode b_Model_readRule 88 = .ok (.if_icmp .le 13, 3) := by decide +kernel
theorem d_Model_readRule_91 : decode b_Model_readRule 91 = .ok (.aload_n 0, 1) := by decide +kernel
theorem d_Model_readRule_92 : decode b_Model_readRule 92 = .ok (.iload_n 3, 1) := by decide +kernel
theorem d_Model_readRule_93 : decode b_Model_readRule 93 = .ok (.iconst 1, 1) := by decide +kernel
theorem d_Model_readRule_94 : decode b_Model_readRule 94 = .ok (.isub, 1) := by decide +kernel
theorem d_Model_readRule_95 : decode b_Model_readRule 95 = .ok (.putfield 87, 3) := by decide +kernel
theorem d_Model_readRule_98 : decode b_Model_readRule 98 = .ok (.goto 29, 3) := by decide +kernel
theorem d_Model_readRule_101 : decode b_Model_readRule 101 = .ok (.aload_n 0, 1) := by decide +kernel
theorem d_Model_readRule_102 : decode b_Model_readRule 102 = .ok (.iload_n 3, 1) := by decide +kernel
theorem d_Model_readRule_103 : decode b_Model_readRule 103 = .ok (.invokevirtual 76, 3) := by decide +kernel
theorem d_Model_readRule_106 : decode b_Model_readRule 106 = .ok (.bipush 59, 2) := by decide +kernel
theorem d_Model_readRule_108 : decode b_Model_readRule 108 = .ok (.if_icmp .eq 11, 3) := by decide +kernel
theorem d_Model_readRule_111 : decode b_Model_readRule 111 = .ok (.aload_n 0, 1) := by decide +kernel
theorem d_Model_readRule_112 : decode b_Model_readRule 112 = .ok (.iload_n 3, 1) := by decide +kernel
theorem d_Model_readRule_113 : decode b_Model_readRule 113 = .ok (.putfield 87, 3) := by decide +kernel
theorem d_Model_readRule_116 : decode b_Model_readRule 116 = .ok (.goto 11, 3) := by decide +kernel
theorem d_Model_readRule_119 : decode b_Model_readRule 119 = .ok (.aload_n 0, 1) := by decide +kernel
theorem d_Model_readRule_120 : decode b_Model_readRule 120 = .ok (.getfield 35, 3) := by decide +kernel
theorem d_Model_readRule_123 : decode b_Model_readRule 123 = .ok (.iload_n 2, 1) := by decide +kernel
theorem d_Model_readRule_124 : decode b_Model_readRule 124 = .ok (.iload 4, 2) := by decide +kernel
theorem d_Model_readRule_126 : decode b_Model_readRule 126 = .ok (.iastore, 1) := by decide +kernel
theorem d_Model_readRule_127 : decode b_Model_readRule 127 = .ok (.iload_n 3, 1) := by decide +kernel
theorem d_Model_readRule_128 : decode b_Model_readRule 128 = .ok (.iconst 1, 1) := by decide +kernel
theorem d_Model_readRule_129 : decode b_Model_readRule 129 = .ok (.iadd, 1) := by decide +kernel
theorem d_Model_readRule_130 : decode b_Model_readRule 130 = .ok (.ireturn, 1) := by decide +kernel
theorem d_Model_rules_0 : decode b_Model_rules 0 = .ok (.aload_n 0, 1) := by decide +kernel
theorem d_Model_rules_1 : decode b_Model_rules 1 = .ok (.iconst 0, 1) := by decide +kernel
theorem d_Model_rules_2 : decode b_Model_rules 2 = .ok (.putfield 60, 3) := by decide +kernel
theorem d_Model_rules_5 : decode b_Model_rules 5 = .ok (.aload_n 0, 1) := by decide +kernel
theorem d_Model_rules_6 : decode b_Model_rules 6 = .ok (.iconst (-1), 1) := by decide +kernel
theorem d_Model_rules_7 : decode b_Model_rules 7 = .ok (.putfield 87, 3) := by decide +kernel
theorem d_Model_rules_10 : decode b_Model_rules 10 = .ok (.iconst 0, 1) := by decide +kernel
theorem d_Model_rules_11 : decode b_Model_rules 11 = .ok (.istore_n 1, 1) := by decide +kernel
theorem d_Model_rules_12 : decode b_Model_rules 12 = .ok (.iconst 0, 1) := by decide +kernel
theorem d_Model_rules_13 : decode b_Model_rules 13 = .ok (.istore_n 2, 1) := by decide +kernel
theorem d_Model_rules_14 : decode b_Model_rules 14 = .ok (.iload_n 2, 1) := by decide +kernel
theorem d_Model_rules_15 : decode b_Model_rules 15 = .ok (.iconst 5, 1) := by decide +kernel
theorem d_Model_rules_16 : decode b_Model_rules 16 = .ok (.if_icmp .ge 21, 3) := by decide +kernel
theorem d_Model_rules_19 : decode b_Model_rules 19 = .ok (.aload_n 0, 1) := by decide +kernel
theorem d_Model_rules_20 : decode b_Model_rules 20 = .ok (.getfield 35, 3) := by decide +kernel
theorem d_Model_rules_23 : decode b_Model_rules 23 = .ok (.iload_n 2, 1) := by decide +kernel
theorem d_Model_rules_24 : decode b_Model_rules 24 = .ok (.aload_n 0, 1) := by decide +kernel
theorem d_Model_rules_25 : decode b_Model_rules 25 = .ok (.getfield 32, 3) := by decide +kernel
theorem d_Model_rules_28 : decode b_Model_rules 28 = .ok (.iload_n 2, 1) := by decide +kernel
theorem d_Model_rules_29 : decode b_Model_rules 29 = .ok (.iaload, 1) := by decide +kernel
theorem d_Model_rules_30 : decode b_Model_rules 30 = .ok (.iastore, 1) := by decide +kernel
theorem d_Model_rules_31 : decode b_Model_rules 31 = .ok (.iinc 2 1, 3) := by decide +kernel
theorem d_Model_rules_34 : decode b_Model_rules 34 = .ok (.goto (-20), 3) := by decide +kernel
theorem d_Model_rules_37 : decode b_Model_rules 37 = .ok (.iconst 0, 1) := by decide +kernel
theorem d_Model_rules_38 : decode b_Model_rules 38 = .ok (.istore_n 2, 1) := by decide +kernel
theorem d_Model_rules_39 : decode b_Model_rules 39 = .ok (.iload_n 2, 1) := by decide +kernel
theorem d_Model_rules_40 : decode b_Model_rules 40 = .ok (.aload_n 0, 1) := by decide +kernel
theorem d_Model_rules_41 : decode b_Model_rules 41 = .ok (.getfield 73, 3) := by decide +kernel
theorem d_Model_rules_44 : decode b_Model_rules 44 = .ok (.if_icmp .ge 22, 3) := by decide +kernel
theorem d_Model_rules_47 : decode b_Model_rules 47 = .ok (.aload_n 0, 1) := by decide +kernel
theorem d_Model_rules_48 : decode b_Model_rules 48 = .ok (.getfield 87, 3) := by decide +kernel
theorem d_Model_rules_51 : decode b_Model_rules 51 = .ok (.ifCond .ge 15, 3) := by decide +kernel
theorem d_Model_rules_54 : decode b_Model_rules 54 = .ok (.aload_n 0, 1) := by decide +kernel
theorem d_Model_rules_55 : decode b_Model_rules 55 = .ok (.iload_n 2, 1) := by decide +kernel
theorem d_Model_rules_56 : decode b_Model_rules 56 = .ok (.invokevirtual 90, 3) := by decide +kernel
theorem d_Model_rules_59 : decode b_Model_rules 59 = .ok (.istore_n 2, 1) := by decide +kernel
theorem d_Model_rules_60 : decode b_Model_rules 60 = .ok (.iinc 1 1, 3) := by decide +kernel
theorem d_Model_rules_63 : decode b_Model_rules 63 = .ok (.goto (-24), 3) := by decide +kernel
theorem d_Model_rules_66 : decode b_Model_rules 66 = .ok (.aload_n 0, 1) := by decide +kernel
theorem d_Model_rules_67 : decode b_Model_rules 67 = .ok (.iconst 0, 1) := by decide +kernel
theorem d_Model_rules_68 : decode b_Model_rules 68 = .ok (.putfield 73, 3) := by decide +kernel
theorem d_Model_rules_71 : decode b_Model_rules 71 = .ok (.aload_n 0, 1) := by decide +kernel
theorem d_Model_rules_72 : decode b_Model_rules 72 = .ok (.getfield 87, 3) := by decide +kernel
theorem d_Model_rules_75 : decode b_Model_rules 75 = .ok (.ifCond .lt 10, 3) := by decide +kernel
theorem d_Model_rules_78 : decode b_Model_rules 78 = .ok (.iconst (-1), 1) := by decide +kernel
theorem d_Model_rules_79 : decode b_Model_rules 79 = .ok (.aload_n 0, 1) := by decide +kernel
theorem d_Model_rules_80 : decode b_Model_rules 80 = .ok (.getfield 87, 3) := by decide +kernel
theorem d_Model_rules_83 : decode b_Model_rules 83 = .ok (.isub, 1) := by decide +kernel
theorem d_Model_rules_84 : decode b_Model_rules 84 = .ok (.ireturn, 1) := by decide +kernel
theorem d_Model_rules_85 : decode b_Model_rules 85 = .ok (.iconst 0, 1) := by decide +kernel
theorem d_Model_rules_86 : decode b_Model_rules 86 = .ok (.istore_n 2, 1) := by decide +kernel
theorem d_Model_rules_87 : decode b_Model_rules 87 = .ok (.iload_n 2, 1) := by decide +kernel
theorem d_Model_rules_88 : decode b_Model_rules 88 = .ok (.iconst 5, 1) := by decide +kernel
theorem d_Model_rules_89 : decode b_Model_rules 89 = .ok (.if_icmp .ge 21, 3) := by decide +kernel
theorem d_Model_rules_92 : decode b_Model_rules 92 = .ok (.aload_n 0, 1) := by decide +kernel
theorem d_Model_rules_93 : decode b_Model_rules 93 = .ok (.getfield 32, 3) := by decide +kernel
theorem d_Model_rules_96 : decode b_Model_rules 96 = .ok (.iload_n 2, 1) := by decide +kernel
theorem d_Model_rules_97 : decode b_Model_rules 97 = .ok (.aload_n 0, 1) := by decide +kernel
theorem d_Model_rules_98 : decode b_Model_rules 98 = .ok (.getfield 35, 3) := by decide +kernel
theorem d_Model_rules_101 : decode b_Model_rules 101 = .ok (.iload_n 2, 1) := by decide +kernel
theorem d_Model_rules_102 : decode b_Model_rules 102 = .ok (.iaload, 1) := by decide +kernel
theorem d_Model_rules_103 : decode b_Model_rules 103 = .ok (.iastore, 1) := by decide +kernel
theorem d_Model_rules_104 : decode b_Model_rules 104 = .ok (.iinc 2 1, 3) := by decide +kernel
theorem d_Model_rules_107 : decode b_Model_rules 107 = .ok (.goto (-20), 3) := by decide +kernel
theorem d_Model_rules_110 : decode b_Model_rules 110 = .ok (.iload_n 1, 1) := by decide +kernel
theorem d_Model_rules_111 : decode b_Model_rules 111 = .ok (.ireturn, 1) := by decide +kernel
theorem d_Model_start_0 : decode b_Model_start 0 = .ok (.aload_n 0, 1) := by decide +kernel
theorem d_Model_start_1 : decode b_Model_start 1 = .ok (.iconst 0, 1) := by decide +kernel
theorem d_Model_start_2 : decode b_Model_start 2 = .ok (.putfield 60, 3) := by decide +kernel
theorem d_Model_start_5 : decode b_Model_start 5 = .ok (.aload_n 0, 1) := by decide +kernel
theorem d_Model_start_6 : decode b_Model_start 6 = .ok (.iload_n 1, 1) := by decide +kernel
theorem d_Model_start_7 : decode b_Model_start 7 = .ok (.invokevirtual 93, 3) := by decide +kernel
theorem d_Model_start_10 : decode b_Model_start 10 = .ok (.ifCond .eq 13, 3) := by decide +kernel
theorem d_Model_start_13 : decode b_Model_start 13 = .ok (.iload_n 2, 1) := by decide +kernel
theorem d_Model_start_14 : decode b_Model_start 14 = .ok (.ifCond .lt 9, 3) := by decide +kernel
theorem d_Model_start_17 : decode b_Model_start 17 = .ok (.iload_n 2, 1) := by decide +kernel
theorem d_Model_start_18 : decode b_Model_start 18 = .ok (.ldc 96, 2) := by decide +kernel
theorem d_Model_start_20 : decode b_Model_start 20 = .ok (.if_icmp .le 5, 3) := by decide +kernel
theorem d_Model_start_23 : decode b_Model_start 23 = .ok (.iconst 0, 1) := by decide +kernel
theorem d_Model_start_24 : decode b_Model_start 24 = .ok (.ireturn, 1) := by decide +kernel
theorem d_Model_start_25 : decode b_Model_start 25 = .ok (.iconst 0, 1) := by decide +kernel
theorem d_Model_start_26 : decode b_Model_start 26 = .ok (.istore_n 3, 1) := by decide +kernel
theorem d_Model_start_27 : decode b_Model_start 27 = .ok (.iload_n 3, 1) := by decide +kernel
theorem d_Model_start_28 : decode b_Model_start 28 = .ok (.aload_n 0, 1) := by decide +kernel
theorem d_Model_start_29 : decode b_Model_start 29 = .ok (.getfield 70, 3) := by decide +kernel
theorem d_Model_start_32 : decode b_Model_start 32 = .ok (.if_icmp .ge 31, 3) := by decide +kernel
theorem d_Model_start_35 : decode b_Model_start 35 = .ok (.aload_n 0, 1) := by decide +kernel
theorem d_Model_start_36 : decode b_Model_start 36 = .ok (.getfield 16, 3) := by decide +kernel
theorem d_Model_start_39 : decode b_Model_start 39 = .ok (.iload_n 3, 1) := by decide +kernel
theorem d_Model_start_40 : decode b_Model_start 40 = .ok (.iaload, 1) := by decide +kernel
theorem d_Model_start_41 : decode b_Model_start 41 = .ok (.iload_n 1, 1) := by decide +kernel
theorem d_Model_start_42 : decode b_Model_start 42 = .ok (.if_icmp .ne 15, 3) := by decide +kernel
theorem d_Model_start_45 : decode b_Model_start 45 = .ok (.aload_n 0, 1) := by decide +kernel
theorem d_Model_start_46 : decode b_Model_start 46 = .ok (.getfield 22, 3) := by decide +kernel
theorem d_Model_start_49 : decode b_Model_start 49 = .ok (.iload_n 3, 1) := by decide +kernel
theorem d_Model_start_50 : decode b_Model_start 50 = .ok (.iaload, 1) := by decide +kernel
theorem d_Model_start_51 : decode b_Model_start 51 = .ok (.iload_n 2, 1) := by decide +kernel
theorem d_Model_start_52 : decode b_Model_start 52 = .ok (.if_icmp .ge 5, 3) := by decide +kernel
theorem d_Model_start_55 : decode b_Model_start 55 = .ok (.iconst 0, 1) := by decide +kernel
theorem d_Model_start_56 : decode b_Model_start 56 = .ok (.ireturn, 1) := by decide +kernel
theorem d_Model_start_57 : decode b_Model_start 57 = .ok (.iinc 3 1, 3) := by decide +kernel
theorem d_Model_start_60 : decode b_Model_start 60 = .ok (.goto (-33), 3) := by decide +kernel
theorem d_Model_start_63 : decode b_Model_start 63 = .ok (.aload_n 0, 1) := by decide +kernel
theorem d_Model_start_64 : decode b_Model_start 64 = .ok (.getfield 13, 3) := by decide +kernel
theorem d_Model_start_67 : decode b_Model_start 67 = .ok (.iload_n 1, 1) := by decide +kernel
theorem d_Model_start_68 : decode b_Model_start 68 = .ok (.iload_n 2, 1) := by decide +kernel
theorem d_Model_start_69 : decode b_Model_start 69 = .ok (.iastore, 1) := by decide +kernel
theorem d_Model_start_70 : decode b_Model_start 70 = .ok (.iconst 1, 1) := by decide +kernel
theorem d_Model_start_71 : decode b_Model_start 71 = .ok (.ireturn, 1) := by decide +kernel
theorem d_Model_submit_0 : decode b_Model_submit 0 = .ok (.aload_n 0, 1) := by decide +kernel
theorem d_Model_submit_1 : decode b_Model_submit 1 = .ok (.iconst 0, 1) := by decide +kernel
theorem d_Model_submit_2 : decode b_Model_submit 2 = .ok (.putfield 60, 3) := by decide +kernel
theorem d_Model_submit_5 : decode b_Model_submit 5 = .ok (.aload_n 0, 1) := by decide +kernel
theorem d_Model_submit_6 : decode b_Model_submit 6 = .ok (.iload_n 1, 1) := by decide +kernel
theorem d_Model_submit_7 : decode b_Model_submit 7 = .ok (.invokevirtual 93, 3) := by decide +kernel
theorem d_Model_submit_10 : decode b_Model_submit 10 = .ok (.ifCond .eq 47, 3) := by decide +kernel
theorem d_Model_submit_13 : decode b_Model_submit 13 = .ok (.aload_n 0, 1) := by decide +kernel
theorem d_Model_submit_14 : decode b_Model_submit 14 = .ok (.iload_n 2, 1) := by decide +kernel
theorem d_Model_submit_15 : decode b_Model_submit 15 = .ok (.invokevirtual 97, 3) := by decide +kernel
theorem d_Model_submit_18 : decode b_Model_submit 18 = .ok (.ifCond .eq 39, 3) := by decide +kernel
theorem d_Model_submit_21 : decode b_Model_submit 21 = .ok (.aload_n 0, 1) := by decide +kernel
theorem d_Model_submit_22 : decode b_Model_submit 22 = .ok (.getfield 13, 3) := by decide +kernel
theorem d_Model_submit_25 : decode b_Model_submit 25 = .ok (.aload_n 0, 1) := by decide +kernel
theorem d_Model_submit_26 : decode b_Model_submit 26 = .ok (.iload_n 1, 1) := by decide +kernel
theorem d_Model_submit_27 : decode b_Model_submit 27 = .ok (.invokevirtual 93, 3) := by decide +kernel
theorem d_Model_submit_30 : decode b_Model_submit 30 = .ok (.ifCond .eq 7, 3) := by decide +kernel
theorem d_Model_submit_33 : decode b_Model_submit 33 = .ok (.iload_n 1, 1) := by decide +kernel
theorem d_Model_submit_34 : decode b_Model_submit 34 = .ok (.goto 4, 3) := by decide +kernel
theorem d_Model_submit_37 : decode b_Model_submit 37 = .ok (.iconst 0, 1) := by decide +kernel
theorem d_Model_submit_38 : decode b_Model_submit 38 = .ok (.iaload, 1) := by decide +kernel
theorem d_Model_submit_39 : decode b_Model_submit 39 = .ok (.ifCond .lt 18, 3) := by decide +kernel
theorem d_Model_submit_42 : decode b_Model_submit 42 = .ok (.iload 4, 2) := by decide +kernel
theorem d_Model_submit_44 : decode b_Model_submit 44 = .ok (.ifCond .lt 13, 3) := by decide +kernel
theorem d_Model_submit_47 : decode b_Model_submit 47 = .ok (.aload_n 0, 1) := by decide +kernel
theorem d_Model_submit_48 : decode b_Model_submit 48 = .ok (.getfield 70, 3) := by decide +kernel
theorem d_Model_submit_51 : decode b_Model_submit 51 = .ok (.sipush 300, 3) := by decide +kernel
theorem d_Model_submit_54 : decode b_Model_submit 54 = .ok (.if_icmp .ne 5, 3) := by decide +kernel
theorem d_Model_submit_57 : decode b_Model_submit 57 = .ok (.iconst (-1), 1) := by decide +kernel
theorem d_Model_submit_58 : decode b_Model_submit 58 = .ok (.ireturn, 1) := by decide +kernel
theorem d_Model_submit_59 : decode b_Model_submit 59 = .ok (.iload_n 3, 1) := by decide +kernel
theorem d_Model_submit_60 : decode b_Model_submit 60 = .ok (.aload_n 0, 1) := by decide +kernel
theorem d_Model_submit_61 : decode b_Model_submit 61 = .ok (.getfield 13, 3) := by decide +kernel
theorem d_Model_submit_64 : decode b_Model_submit 64 = .ok (.iload_n 1, 1) := by decide +kernel
theorem d_Model_submit_65 : decode b_Model_submit 65 = .ok (.iaload, 1) := by decide +kernel
theorem d_Model_submit_66 : decode b_Model_submit 66 = .ok (.if_icmp .lt 9, 3) := by decide +kernel
theorem d_Model_submit_69 : decode b_Model_submit 69 = .ok (.iload_n 3, 1) := by decide +kernel
theorem d_Model_submit_70 : decode b_Model_submit 70 = .ok (.ldc 96, 2) := by decide +kernel
theorem d_Model_submit_72 : decode b_Model_submit 72 = .ok (.if_icmp .le 5, 3) := by decide +kernel
theorem d_Model_submit_75 : decode b_Model_submit 75 = .ok (.iconst (-1), 1) := by decide +kernel
theorem d_Model_submit_76 : decode b_Model_submit 76 = .ok (.ireturn, 1) := by decide +kernel
theorem d_Model_submit_77 : decode b_Model_submit 77 = .ok (.aload_n 0, 1) := by decide +kernel
theorem d_Model_submit_78 : decode b_Model_submit 78 = .ok (.getfield 16, 3) := by decide +kernel
theorem d_Model_submit_81 : decode b_Model_submit 81 = .ok (.aload_n 0, 1) := by decide +kernel
theorem d_Model_submit_82 : decode b_Model_submit 82 = .ok (.getfield 70, 3) := by decide +kernel
theorem d_Model_submit_85 : decode b_Model_submit 85 = .ok (.iload_n 1, 1) := by decide +kernel
theorem d_Model_submit_86 : decode b_Model_submit 86 = .ok (.iastore, 1) := by decide +kernel
theorem d_Model_submit_87 : decode b_Model_submit 87 = .ok (.aload_n 0, 1) := by decide +kernel
theorem d_Model_submit_88 : decode b_Model_submit 88 = .ok (.getfield 19, 3) := by decide +kernel
theorem d_Model_submit_91 : decode b_Model_submit 91 = .ok (.aload_n 0, 1) := by decide +kernel
theorem d_Model_submit_92 : decode b_Model_submit 92 = .ok (.getfield 70, 3) := by decide +kernel
theorem d_Model_submit_95 : decode b_Model_submit 95 = .ok (.iload_n 2, 1) := by decide +kernel
theorem d_Model_submit_96 : decode b_Model_submit 96 = .ok (.iastore, 1) := by decide +kernel
theorem d_Model_submit_97 : decode b_Model_submit 97 = .ok (.aload_n 0, 1) := by decide +kernel
theorem d_Model_submit_98 : decode b_Model_submit 98 = .ok (.getfield 22, 3) := by decide +kernel
theorem d_Model_submit_101 : decode b_Model_submit 101 = .ok (.aload_n 0, 1) := by decide +kernel
theorem d_Model_submit_102 : decode b_Model_submit 102 = .ok (.getfield 70, 3) := by decide +kernel
theorem d_Model_submit_105 : decode b_Model_submit 105 = .ok (.iload_n 3, 1) := by decide +kernel
theorem d_Model_submit_106 : decode b_Model_submit 106 = .ok (.iastore, 1) := by decide +kernel
theorem d_Model_submit_107 : decode b_Model_submit 107 = .ok (.aload_n 0, 1) := by decide +kernel
theorem d_Model_submit_108 : decode b_Model_submit 108 = .ok (.getfield 25, 3) := by decide +kernel
theorem d_Model_submit_111 : decode b_Model_submit 111 = .ok (.aload_n 0, 1) := by decide +kernel
theorem d_Model_submit_112 : decode b_Model_submit 112 = .ok (.getfield 70, 3) := by decide +kernel
theorem d_Model_submit_115 : decode b_Model_submit 115 = .ok (.iload 4, 2) := by decide +kernel
theorem d_Model_submit_117 : decode b_Model_submit 117 = .ok (.iastore, 1) := by decide +kernel
theorem d_Model_submit_118 : decode b_Model_submit 118 = .ok (.aload_n 0, 1) := by decide +kernel
theorem d_Model_submit_119 : decode b_Model_submit 119 = .ok (.getfield 28, 3) := by decide +kernel
theorem d_Model_submit_122 : decode b_Model_submit 122 = .ok (.aload_n 0, 1) := by decide +kernel
theorem d_Model_submit_123 : decode b_Model_submit 123 = .ok (.getfield 70, 3) := by decide +kernel
theorem d_Model_submit_126 : decode b_Model_submit 126 = .ok (.iload 5, 2) := by decide +kernel
theorem d_Model_submit_128 : decode b_Model_submit 128 = .ok (.bastore, 1) := by decide +kernel
theorem d_Model_submit_129 : decode b_Model_submit 129 = .ok (.aload_n 0, 1) := by decide +kernel
theorem d_Model_submit_130 : decode b_Model_submit 130 = .ok (.dup, 1) := by decide +kernel
theorem d_Model_submit_131 : decode b_Model_submit 131 = .ok (.getfield 70, 3) := by decide +kernel
theorem d_Model_submit_134 : decode b_Model_submit 134 = .ok (.iconst 1, 1) := by decide +kernel
theorem d_Model_submit_135 : decode b_Model_submit 135 = .ok (.iadd, 1) := by decide +kernel
theorem d_Model_submit_136 : decode b_Model_submit 136 = .ok (.putfield 70, 3) := by decide +kernel
theorem d_Model_submit_139 : decode b_Model_submit 139 = .ok (.aload_n 0, 1) := by decide +kernel
theorem d_Model_submit_140 : decode b_Model_submit 140 = .ok (.getfield 70, 3) := by decide +kernel
theorem d_Model_submit_143 : decode b_Model_submit 143 = .ok (.iconst 1, 1) := by decide +kernel
theorem d_Model_submit_144 : decode b_Model_submit 144 = .ok (.isub, 1) := by decide +kernel
theorem d_Model_submit_145 : decode b_Model_submit 145 = .ok (.ireturn, 1) := by decide +kernel
theorem d_Model_correct_0 : decode b_Model_correct 0 = .ok (.aload_n 0, 1) := by decide +kernel
theorem d_Model_correct_1 : decode b_Model_correct 1 = .ok (.iconst 0, 1) := by decide +kernel
theorem d_Model_correct_2 : decode b_Model_correct 2 = .ok (.putfield 60, 3) := by decide +kernel
theorem d_Model_correct_5 : decode b_Model_correct 5 = .ok (.aload_n 0, 1) := by decide +kernel
theorem d_Model_correct_6 : decode b_Model_correct 6 = .ok (.iload_n 1, 1) := by decide +kernel
theorem d_Model_correct_7 : decode b_Model_correct 7 = .ok (.invokevirtual 100, 3) := by decide +kernel
theorem d_Model_correct_10 : decode b_Model_correct 10 = .ok (.ifCond .eq 13, 3) := by decide +kernel
theorem d_Model_correct_13 : decode b_Model_correct 13 = .ok (.aload_n 0, 1) := by decide +kernel
theorem d_Model_correct_14 : decode b_Model_correct 14 = .ok (.getfield 28, 3) := by decide +kernel
theorem d_Model_correct_17 : decode b_Model_correct 17 = .ok (.iload_n 1, 1) := by decide +kernel
theorem d_Model_correct_18 : decode b_Model_correct 18 = .ok (.baload, 1) := by decide +kernel
theorem d_Model_correct_19 : decode b_Model_correct 19 = .ok (.iload_n 2, 1) := by decide +kernel
theorem d_Model_correct_20 : decode b_Model_correct 20 = .ok (.if_icmp .ne 5, 3) := by decide +kernel
theorem d_Model_correct_23 : decode b_Model_correct 23 = .ok (.iconst 0, 1) := by decide +kernel
theorem d_Model_correct_24 : decode b_Model_correct 24 = .ok (.ireturn, 1) := by decide +kernel
theorem d_Model_correct_25 : decode b_Model_correct 25 = .ok (.aload_n 0, 1) := by decide +kernel
theorem d_Model_correct_26 : decode b_Model_correct 26 = .ok (.getfield 28, 3) := by decide +kernel
theorem d_Model_correct_29 : decode b_Model_correct 29 = .ok (.iload_n 1, 1) := by decide +kernel
theorem d_Model_correct_30 : decode b_Model_correct 30 = .ok (.iload_n 2, 1) := by decide +kernel
theorem d_Model_correct_31 : decode b_Model_correct 31 = .ok (.bastore, 1) := by decide +kernel
theorem d_Model_correct_32 : decode b_Model_correct 32 = .ok (.iconst 1, 1) := by decide +kernel
theorem d_Model_correct_33 : decode b_Model_correct 33 = .ok (.ireturn, 1) := by decide +kernel
theorem d_Model_secondsOf_0 : decode b_Model_secondsOf 0 = .ok (.aload_n 0, 1) := by decide +kernel
theorem d_Model_secondsOf_1 : decode b_Model_secondsOf 1 = .ok (.getfield 22, 3) := by decide +kernel
theorem d_Model_secondsOf_4 : decode b_Model_secondsOf 4 = .ok (.iload_n 1, 1) := by decide +kernel
theorem d_Model_secondsOf_5 : decode b_Model_secondsOf 5 = .ok (.iaload, 1) := by decide +kernel
theorem d_Model_secondsOf_6 : decode b_Model_secondsOf 6 = .ok (.aload_n 0, 1) := by decide +kernel
theorem d_Model_secondsOf_7 : decode b_Model_secondsOf 7 = .ok (.getfield 13, 3) := by decide +kernel
theorem d_Model_secondsOf_10 : decode b_Model_secondsOf 10 = .ok (.aload_n 0, 1) := by decide +kernel
theorem d_Model_secondsOf_11 : decode b_Model_secondsOf 11 = .ok (.getfield 16, 3) := by decide +kernel
theorem d_Model_secondsOf_14 : decode b_Model_secondsOf 14 = .ok (.iload_n 1, 1) := by decide +kernel
theorem d_Model_secondsOf_15 : decode b_Model_secondsOf 15 = .ok (.iaload, 1) := by decide +kernel
theorem d_Model_secondsOf_16 : decode b_Model_secondsOf 16 = .ok (.iaload, 1) := by decide +kernel
theorem d_Model_secondsOf_17 : decode b_Model_secondsOf 17 = .ok (.isub, 1) := by decide +kernel
theorem d_Model_secondsOf_18 : decode b_Model_secondsOf 18 = .ok (.ireturn, 1) := by decide +kernel
theorem d_Model_isLate_0 : decode b_Model_isLate 0 = .ok (.aload_n 0, 1) := by decide +kernel
theorem d_Model_isLate_1 : decode b_Model_isLate 1 = .ok (.iload_n 1, 1) := by decide +kernel
theorem d_Model_isLate_2 : decode b_Model_isLate 2 = .ok (.invokevirtual 103, 3) := by decide +kernel
theorem d_Model_isLate_5 : decode b_Model_isLate 5 = .ok (.aload_n 0, 1) := by decide +kernel
theorem d_Model_isLate_6 : decode b_Model_isLate 6 = .ok (.getfield 32, 3) := by decide +kernel
theorem d_Model_isLate_9 : decode b_Model_isLate 9 = .ok (.iconst 3, 1) := by decide +kernel
theorem d_Model_isLate_10 : decode b_Model_isLate 10 = .ok (.iaload, 1) := by decide +kernel
theorem d_Model_isLate_11 : decode b_Model_isLate 11 = .ok (.if_icmp .le 7, 3) := by decide +kernel
theorem d_Model_isLate_14 : decode b_Model_isLate 14 = .ok (.iconst 1, 1) := by decide +kernel
theorem d_Model_isLate_15 : decode b_Model_isLate 15 = .ok (.goto 4, 3) := by decide +kernel
theorem d_Model_isLate_18 : decode b_Model_isLate 18 = .ok (.iconst 0, 1) := by decide +kernel
theorem d_Model_isLate_19 : decode b_Model_isLate 19 = .ok (.ireturn, 1) := by decide +kernel
theorem d_Model_late_0 : decode b_Model_late 0 = .ok (.aload_n 0, 1) := by decide +kernel
theorem d_Model_late_1 : decode b_Model_late 1 = .ok (.iconst 0, 1) := by decide +kernel
theorem d_Model_late_2 : decode b_Model_late 2 = .ok (.putfield 60, 3) := by decide +kernel
theorem d_Model_late_5 : decode b_Model_late 5 = .ok (.aload_n 0, 1) := by decide +kernel
theorem d_Model_late_6 : decode b_Model_late 6 = .ok (.iload_n 1, 1) := by decide +kernel
theorem d_Model_late_7 : decode b_Model_late 7 = .ok (.invokevirtual 100, 3) := by decide +kernel
theorem d_Model_late_10 : decode b_Model_late 10 = .ok (.ifCond .eq 15, 3) := by decide +kernel
theorem d_Model_late_13 : decode b_Model_late 13 = .ok (.aload_n 0, 1) := by decide +kernel
theorem d_Model_late_14 : decode b_Model_late 14 = .ok (.iload_n 1, 1) := by decide +kernel
theorem d_Model_late_15 : decode b_Model_late 15 = .ok (.invokevirtual 106, 3) := by decide +kernel
theorem d_Model_late_18 : decode b_Model_late 18 = .ok (.ifCond .eq 7, 3) := by decide +kernel
theorem d_Model_late_21 : decode b_Model_late 21 = .ok (.iconst 1, 1) := by decide +kernel
theorem d_Model_late_22 : decode b_Model_late 22 = .ok (.goto 4, 3) := by decide +kernel
theorem d_Model_late_25 : decode b_Model_late 25 = .ok (.iconst 0, 1) := by decide +kernel
theorem d_Model_late_26 : decode b_Model_late 26 = .ok (.ireturn, 1) := by decide +kernel
theorem d_Model_isAhead_0 : decode b_Model_isAhead 0 = .ok (.aload_n 0, 1) := by decide +kernel
theorem d_Model_isAhead_1 : decode b_Model_isAhead 1 = .ok (.getfield 22, 3) := by decide +kernel
theorem d_Model_isAhead_4 : decode b_Model_isAhead 4 = .ok (.iload_n 1, 1) := by decide +kernel
theorem d_Model_isAhead_5 : decode b_Model_isAhead 5 = .ok (.iaload, 1) := by decide +kernel
theorem d_Model_isAhead_6 : decode b_Model_isAhead 6 = .ok (.aload_n 0, 1) := by decide +kernel
theorem d_Model_isAhead_7 : decode b_Model_isAhead 7 = .ok (.getfield 22, 3) := by decide +kernel
theorem d_Model_isAhead_10 : decode b_Model_isAhead 10 = .ok (.iload_n 2, 1) := by decide +kernel
theorem d_Model_isAhead_11 : decode b_Model_isAhead 11 = .ok (.iaload, 1) := by decide +kernel
theorem d_Model_isAhead_12 : decode b_Model_isAhead 12 = .ok (.if_icmp .eq 26, 3) := by decide +kernel
theorem d_Model_isAhead_15 : decode b_Model_isAhead 15 = .ok (.aload_n 0, 1) := by decide +kernel
theorem d_Model_isAhead_16 : decode b_Model_isAhead 16 = .ok (.getfield 22, 3) := by decide +kernel
theorem d_Model_isAhead_19 : decode b_Model_isAhead 19 = .ok (.iload_n 1, 1) := by decide +kernel
theorem d_Model_isAhead_20 : decode b_Model_isAhead 20 = .ok (.iaload, 1) := by decide +kernel
theorem d_Model_isAhead_21 : decode b_Model_isAhead 21 = .ok (.aload_n 0, 1) := by decide +kernel
theorem d_Model_isAhead_22 : decode b_Model_isAhead 22 = .ok (.getfield 22, 3) := by decide +kernel
theorem d_Model_isAhead_25 : decode b_Model_isAhead 25 = .ok (.iload_n 2, 1) := by decide +kernel
theorem d_Model_isAhead_26 : decode b_Model_isAhead 26 = .ok (.iaload, 1) := by decide +kernel
theorem d_Model_isAhead_27 : decode b_Model_isAhead 27 = .ok (.if_icmp .ge 7, 3) := by decide +kernel
theorem d_Model_isAhead_30 : decode b_Model_isAhead 30 = .ok (.iconst 1, 1) := by decide +kernel
theorem d_Model_isAhead_31 : decode b_Model_isAhead 31 = .ok (.goto 17, 3) := by decide +kernel
theorem d_Model_isAhead_34 : decode b_Model_isAhead 34 = .ok (.iconst 0, 1) := by decide +kernel
theorem d_Model_isAhead_35 : decode b_Model_isAhead 35 = .ok (.goto 13, 3) := by decide +kernel
theorem d_Model_isAhead_38 : decode b_Model_isAhead 38 = .ok (.iload_n 1, 1) := by decide +kernel
theorem d_Model_isAhead_39 : decode b_Model_isAhead 39 = .ok (.iload_n 2, 1) := by decide +kernel
theorem d_Model_isAhead_40 : decode b_Model_isAhead 40 = .ok (.if_icmp .ge 7, 3) := by decide +kernel
theorem d_Model_isAhead_43 : decode b_Model_isAhead 43 = .ok (.iconst 1, 1) := by decide +kernel
theorem d_Model_isAhead_44 : decode b_Model_isAhead 44 = .ok (.goto 4, 3) := by decide +kernel
theorem d_Model_isAhead_47 : decode b_Model_isAhead 47 = .ok (.iconst 0, 1) := by decide +kernel
theorem d_Model_isAhead_48 : decode b_Model_isAhead 48 = .ok (.ireturn, 1) := by decide +kernel
theorem d_Model_isOf_0 : decode b_Model_isOf 0 = .ok (.aload_n 0, 1) := by decide +kernel
theorem d_Model_isOf_1 : decode b_Model_isOf 1 = .ok (.getfield 16, 3) := by decide +kernel
theorem d_Model_isOf_4 : decode b_Model_isOf 4 = .ok (.iload_n 1, 1) := by decide +kernel
theorem d_Model_isOf_5 : decode b_Model_isOf 5 = .ok (.iaload, 1) := by decide +kernel
theorem d_Model_isOf_6 : decode b_Model_isOf 6 = .ok (.iload_n 2, 1) := by decide +kernel
theorem d_Model_isOf_7 : decode b_Model_isOf 7 = .ok (.if_icmp .ne 17, 3) := by decide +kernel
theorem d_Model_isOf_10 : decode b_Model_isOf 10 = .ok (.aload_n 0, 1) := by decide +kernel
theorem d_Model_isOf_11 : decode b_Model_isOf 11 = .ok (.getfield 19, 3) := by decide +kernel
theorem d_Model_isOf_14 : decode b_Model_isOf 14 = .ok (.iload_n 1, 1) := by decide +kernel
theorem d_Model_isOf_15 : decode b_Model_isOf 15 = .ok (.iaload, 1) := by decide +kernel
theorem d_Model_isOf_16 : decode b_Model_isOf 16 = .ok (.iload_n 3, 1) := by decide +kernel
theorem d_Model_isOf_17 : decode b_Model_isOf 17 = .ok (.if_icmp .ne 7, 3) := by decide +kernel
theorem d_Model_isOf_20 : decode b_Model_isOf 20 = .ok (.iconst 1, 1) := by decide +kernel
theorem d_Model_isOf_21 : decode b_Model_isOf 21 = .ok (.goto 4, 3) := by decide +kernel
theorem d_Model_isOf_24 : decode b_Model_isOf 24 = .ok (.iconst 0, 1) := by decide +kernel
theorem d_Model_isOf_25 : decode b_Model_isOf 25 = .ok (.ireturn, 1) := by decide +kernel
theorem d_Model_counting_0 : decode b_Model_counting 0 = .ok (.iconst (-1), 1) := by decide +kernel
theorem d_Model_counting_1 : decode b_Model_counting 1 = .ok (.istore_n 3, 1) := by decide +kernel
theorem d_Model_counting_2 : decode b_Model_counting 2 = .ok (.iconst 0, 1) := by decide +kernel
theorem d_Model_counting_3 : decode b_Model_counting 3 = .ok (.istore 4, 2) := by decide +kernel
theorem d_Model_counting_5 : decode b_Model_counting 5 = .ok (.iload 4, 2) := by decide +kernel
theorem d_Model_counting_7 : decode b_Model_counting 7 = .ok (.aload_n 0, 1) := by decide +kernel
theorem d_Model_counting_8 : decode b_Model_counting 8 = .ok (.getfield 70, 3) := by decide +kernel
theorem d_Model_counting_11 : decode b_Model_counting 11 = .ok (.if_icmp .ge 47, 3) := by decide +kernel
theorem d_Model_counting_14 : decode b_Model_counting 14 = .ok (.aload_n 0, 1) := by decide +kernel
theorem d_Model_counting_15 : decode b_Model_counting 15 = .ok (.iload 4, 2) := by decide +kernel
theorem d_Model_counting_17 : decode b_Model_counting 17 = .ok (.iload_n 1, 1) := by decide +kernel
theorem d_Model_counting_18 : decode b_Model_counting 18 = .ok (.iload_n 2, 1) := by decide +kernel
theorem d_Model_counting_19 : decode b_Model_counting 19 = .ok (.invokevirtual 109, 3) := by decide +kernel
theorem d_Model_counting_22 : decode b_Model_counting 22 = .ok (.ifCond .eq 30, 3) := by decide +kernel
theorem d_Model_counting_25 : decode b_Model_counting 25 = .ok (.aload_n 0, 1) := by decide +kernel
theorem d_Model_counting_26 : decode b_Model_counting 26 = .ok (.getfield 28, 3) := by decide +kernel
theorem d_Model_counting_29 : decode b_Model_counting 29 = .ok (.iload 4, 2) := by decide +kernel
theorem d_Model_counting_31 : decode b_Model_counting 31 = .ok (.baload, 1) := by decide +kernel
theorem d_Model_counting_32 : decode b_Model_counting 32 = .ok (.ifCond .eq 20, 3) := by decide +kernel
theorem d_Model_counting_35 : decode b_Model_counting 35 = .ok (.iload_n 3, 1) := by decide +kernel
theorem d_Model_counting_36 : decode b_Model_counting 36 = .ok (.ifCond .lt 13, 3) := by decide +kernel
theorem d_Model_counting_39 : decode b_Model_counting 39 = .ok (.aload_n 0, 1) := by decide +kernel
theorem d_Model_counting_40 : decode b_Model_counting 40 = .ok (.iload 4, 2) := by decide +kernel
theorem d_Model_counting_42 : decode b_Model_counting 42 = .ok (.iload_n 3, 1) := by decide +kernel
theorem d_Model_counting_43 : decode b_Model_counting 43 = .ok (.invokevirtual 113, 3) := by decide +kernel
theorem d_Model_counting_46 : decode b_Model_counting 46 = .ok (.ifCond .eq 6, 3) := by decide +kernel
theorem d_Model_counting_49 : decode b_Model_counting 49 = .ok (.iload 4, 2) := by decide +kernel
theorem d_Model_counting_51 : decode b_Model_counting 51 = .ok (.istore_n 3, 1) := by decide +kernel
theorem d_Model_counting_52 : decode b_Model_counting 52 = .ok (.iinc 4 1, 3) := by decide +kernel
theorem d_Model_counting_55 : decode b_Model_counting 55 = .ok (.goto (-50), 3) := by decide +kernel
theorem d_Model_counting_58 : decode b_Model_counting 58 = .ok (.iload_n 3, 1) := by decide +kernel
theorem d_Model_counting_59 : decode b_Model_counting 59 = .ok (.ifCond .lt 15, 3) := by decide +kernel
theorem d_Model_counting_62 : decode b_Model_counting 62 = .ok (.aload_n 0, 1) := by decide +kernel
theorem d_Model_counting_63 : decode b_Model_counting 63 = .ok (.iload_n 3, 1) := by decide +kernel
theorem d_Model_counting_64 : decode b_Model_counting 64 = .ok (.invokevirtual 106, 3) := by decide +kernel
theorem d_Model_counting_67 : decode b_Model_counting 67 = .ok (.ifCond .ne 7, 3) := by decide +kernel
theorem d_Model_counting_70 : decode b_Model_counting 70 = .ok (.iload_n 3, 1) := by decide +kernel
theorem d_Model_counting_71 : decode b_Model_counting 71 = .ok (.goto 4, 3) := by decide +kernel
theorem d_Model_counting_74 : decode b_Model_counting 74 = .ok (.iconst (-1), 1) := by decide +kernel
theorem d_Model_counting_75 : decode b_Model_counting 75 = .ok (.ireturn, 1) := by decide +kernel
theorem d_Model_pointsOf_0 : decode b_Model_pointsOf 0 = .ok (.aload_n 0, 1) := by decide +kernel
theorem d_Model_pointsOf_1 : decode b_Model_pointsOf 1 = .ok (.iload_n 1, 1) := by decide +kernel
theorem d_Model_pointsOf_2 : decode b_Model_pointsOf 2 = .ok (.iload_n 2, 1) := by decide +kernel
theorem d_Model_pointsOf_3 : decode b_Model_pointsOf 3 = .ok (.invokevirtual 117, 3) := by decide +kernel
theorem d_Model_pointsOf_6 : decode b_Model_pointsOf 6 = .ok (.istore_n 3, 1) := by decide +kernel
theorem d_Model_pointsOf_7 : decode b_Model_pointsOf 7 = .ok (.iload_n 3, 1) := by decide +kernel
theorem d_Model_pointsOf_8 : decode b_Model_pointsOf 8 = .ok (.ifCond .ge 7, 3) := by decide +kernel
theorem d_Model_pointsOf_11 : decode b_Model_pointsOf 11 = .ok (.ldc2_w 121, 3) := by decide +kernel
theorem d_Model_pointsOf_14 : decode b_Model_pointsOf 14 = .ok (.lreturn, 1) := by decide +kernel
theorem d_Model_pointsOf_15 : decode b_Model_pointsOf 15 = .ok (.iconst 0, 1) := by decide +kernel
theorem d_Model_pointsOf_16 : decode b_Model_pointsOf 16 = .ok (.istore 4, 2) := by decide +kernel
theorem d_Model_pointsOf_18 : decode b_Model_pointsOf 18 = .ok (.iconst 0, 1) := by decide +kernel
theorem d_Model_pointsOf_19 : decode b_Model_pointsOf 19 = .ok (.istore 5, 2) := by decide +kernel
theorem d_Model_pointsOf_21 : decode b_Model_pointsOf 21 = .ok (.iload 5, 2) := by decide +kernel
theorem d_Model_pointsOf_23 : decode b_Model_pointsOf 23 = .ok (.aload_n 0, 1) := by decide +kernel
theorem d_Model_pointsOf_24 : decode b_Model_pointsOf 24 = .ok (.getfield 70, 3) := by decide +kernel
theorem d_Model_pointsOf_27 : decode b_Model_pointsOf 27 = .ok (.if_icmp .ge 50, 3) := by decide +kernel
theorem d_Model_pointsOf_30 : decode b_Model_pointsOf 30 = .ok (.iload 4, 2) := by decide +kernel
theorem d_Model_pointsOf_32 : decode b_Model_pointsOf 32 = .ok (.aload_n 0, 1) := by decide +kernel
theorem d_Model_pointsOf_33 : decode b_Model_pointsOf 33 = .ok (.iload 5, 2) := by decide +kernel
theorem d_Model_pointsOf_35 : decode b_Model_pointsOf 35 = .ok (.iload_n 1, 1) := by decide +kernel
theorem d_Model_pointsOf_36 : decode b_Model_pointsOf 36 = .ok (.iload_n 2, 1) := by decide +kernel
theorem d_Model_pointsOf_37 : decode b_Model_pointsOf 37 = .ok (.invokevirtual 109, 3) := by decide +kernel
theorem d_Model_pointsOf_40 : decode b_Model_pointsOf 40 = .ok (.ifCond .eq 27, 3) := by decide +kernel
theorem d_Model_pointsOf_43 : decode b_Model_pointsOf 43 = .ok (.aload_n 0, 1) := by decide +kernel
theorem d_Model_pointsOf_44 : decode b_Model_pointsOf 44 = .ok (.getfield 28, 3) := by decide +kernel
theorem d_Model_pointsOf_47 : decode b_Model_pointsOf 47 = .ok (.iload 5, 2) := by decide +kernel
theorem d_Model_pointsOf_49 : decode b_Model_pointsOf 49 = .ok (.baload, 1) := by decide +kernel
theorem d_Model_pointsOf_50 : decode b_Model_pointsOf 50 = .ok (.ifCond .ne 17, 3) := by decide +kernel
theorem d_Model_pointsOf_53 : decode b_Model_pointsOf 53 = .ok (.aload_n 0, 1) := by decide +kernel
theorem d_Model_pointsOf_54 : decode b_Model_pointsOf 54 = .ok (.iload 5, 2) := by decide +kernel
theorem d_Model_pointsOf_56 : decode b_Model_pointsOf 56 = .ok (.iload_n 3, 1) := by decide +kernel
theorem d_Model_pointsOf_57 : decode b_Model_pointsOf 57 = .ok (.invokevirtual 113, 3) := by decide +kernel
theorem d_Model_pointsOf_60 : decode b_Model_pointsOf 60 = .ok (.ifCond .eq 7, 3) := by decide +kernel
theorem d_Model_pointsOf_63 : decode b_Model_pointsOf 63 = .ok (.iconst 1, 1) := by decide +kernel
theorem d_Model_pointsOf_64 : decode b_Model_pointsOf 64 = .ok (.goto 4, 3) := by decide +kernel
theorem d_Model_pointsOf_67 : decode b_Model_pointsOf 67 = .ok (.iconst 0, 1) := by decide +kernel
theorem d_Model_pointsOf_68 : decode b_Model_pointsOf 68 = .ok (.iadd, 1) := by decide +kernel
theorem d_Model_pointsOf_69 : decode b_Model_pointsOf 69 = .ok (.istore 4, 2) := by decide +kernel
theorem d_Model_pointsOf_71 : decode b_Model_pointsOf 71 = .ok (.iinc 5 1, 3) := by decide +kernel
theorem d_Model_pointsOf_74 : decode b_Model_pointsOf 74 = .ok (.goto (-53), 3) := by decide +kernel
theorem d_Model_pointsOf_77 : decode b_Model_pointsOf 77 = .ok (.aload_n 0, 1) := by decide +kernel
theorem d_Model_pointsOf_78 : decode b_Model_pointsOf 78 = .ok (.getfield 7, 3) := by decide +kernel
theorem d_Model_pointsOf_81 : decode b_Model_pointsOf 81 = .ok (.iload_n 2, 1) := by decide +kernel
theorem d_Model_pointsOf_82 : decode b_Model_pointsOf 82 = .ok (.iaload, 1) := by decide +kernel
theorem d_Model_pointsOf_83 : decode b_Model_pointsOf 83 = .ok (.i2l, 1) := by decide +kernel
theorem d_Model_pointsOf_84 : decode b_Model_pointsOf 84 = .ok (.aload_n 0, 1) := by decide +kernel
theorem d_Model_pointsOf_85 : decode b_Model_pointsOf 85 = .ok (.getfield 32, 3) := by decide +kernel
theorem d_Model_pointsOf_88 : decode b_Model_pointsOf 88 = .ok (.iconst 0, 1) := by decide +kernel
theorem d_Model_pointsOf_89 : decode b_Model_pointsOf 89 = .ok (.iaload, 1) := by decide +kernel
theorem d_Model_pointsOf_90 : decode b_Model_pointsOf 90 = .ok (.i2l, 1) := by decide +kernel
theorem d_Model_pointsOf_91 : decode b_Model_pointsOf 91 = .ok (.lmul, 1) := by decide +kernel
theorem d_Model_pointsOf_92 : decode b_Model_pointsOf 92 = .ok (.aload_n 0, 1) := by decide +kernel
theorem d_Model_pointsOf_93 : decode b_Model_pointsOf 93 = .ok (.getfield 7, 3) := by decide +kernel
theorem d_Model_pointsOf_96 : decode b_Model_pointsOf 96 = .ok (.iload_n 2, 1) := by decide +kernel
theorem d_Model_pointsOf_97 : decode b_Model_pointsOf 97 = .ok (.iaload, 1) := by decide +kernel
theorem d_Model_pointsOf_98 : decode b_Model_pointsOf 98 = .ok (.i2l, 1) := by decide +kernel
theorem d_Model_pointsOf_99 : decode b_Model_pointsOf 99 = .ok (.aload_n 0, 1) := by decide +kernel
theorem d_Model_pointsOf_100 : decode b_Model_pointsOf 100 = .ok (.getfield 32, 3) := by decide +kernel
theorem d_Model_pointsOf_103 : decode b_Model_pointsOf 103 = .ok (.iconst 1, 1) := by decide +kernel
theorem d_Model_pointsOf_104 : decode b_Model_pointsOf 104 = .ok (.iaload, 1) := by decide +kernel
theorem d_Model_pointsOf_105 : decode b_Model_pointsOf 105 = .ok (.i2l, 1) := by decide +kernel
theorem d_Model_pointsOf_106 : decode b_Model_pointsOf 106 = .ok (.lmul, 1) := by decide +kernel
theorem d_Model_pointsOf_107 : decode b_Model_pointsOf 107 = .ok (.aload_n 0, 1) := by decide +kernel
theorem d_Model_pointsOf_108 : decode b_Model_pointsOf 108 = .ok (.iload_n 3, 1) := by decide +kernel
theorem d_Model_pointsOf_109 : decode b_Model_pointsOf 109 = .ok (.invokevirtual 103, 3) := by decide +kernel
theorem d_Model_pointsOf_112 : decode b_Model_pointsOf 112 = .ok (.bipush 60, 2) := by decide +kernel
theorem d_Model_pointsOf_114 : decode b_Model_pointsOf 114 = .ok (.idiv, 1) := by decide +kernel
theorem d_Model_pointsOf_115 : decode b_Model_pointsOf 115 = .ok (.i2l, 1) := by decide +kernel
theorem d_Model_pointsOf_116 : decode b_Model_pointsOf 116 = .ok (.lmul, 1) := by decide +kernel
theorem d_Model_pointsOf_117 : decode b_Model_pointsOf 117 = .ok (.lsub, 1) := by decide +kernel
theorem d_Model_pointsOf_118 : decode b_Model_pointsOf 118 = .ok (.aload_n 0, 1) := by decide +kernel
theorem d_Model_pointsOf_119 : decode b_Model_pointsOf 119 = .ok (.getfield 32, 3) := by decide +kernel
theorem d_Model_pointsOf_122 : decode b_Model_pointsOf 122 = .ok (.iconst 2, 1) := by decide +kernel
theorem d_Model_pointsOf_123 : decode b_Model_pointsOf 123 = .ok (.iaload, 1) := by decide +kernel
theorem d_Model_pointsOf_124 : decode b_Model_pointsOf 124 = .ok (.i2l, 1) := by decide +kernel
theorem d_Model_pointsOf_125 : decode b_Model_pointsOf 125 = .ok (.iload 4, 2) := by decide +kernel
theorem d_Model_pointsOf_127 : decode b_Model_pointsOf 127 = .ok (.i2l, 1) := by decide +kernel
theorem d_Model_pointsOf_128 : decode b_Model_pointsOf 128 = .ok (.lmul, 1) := by decide +kernel
theorem d_Model_pointsOf_129 : decode b_Model_pointsOf 129 = .ok (.lsub, 1) := by decide +kernel
theorem d_Model_pointsOf_130 : decode b_Model_pointsOf 130 = .ok (.lstore 5, 2) := by decide +kernel
theorem d_Model_pointsOf_132 : decode b_Model_pointsOf 132 = .ok (.lload 5, 2) := by decide +kernel
theorem d_Model_pointsOf_134 : decode b_Model_pointsOf 134 = .ok (.lconst 0, 1) := by decide +kernel
theorem d_Model_pointsOf_135 : decode b_Model_pointsOf 135 = .ok (.lcmp, 1) := by decide +kernel
theorem d_Model_pointsOf_136 : decode b_Model_pointsOf 136 = .ok (.ifCond .ge 7, 3) := by decide +kernel
theorem d_Model_pointsOf_139 : decode b_Model_pointsOf 139 = .ok (.lconst 0, 1) := by decide +kernel
theorem d_Model_pointsOf_140 : decode b_Model_pointsOf 140 = .ok (.goto 5, 3) := by decide +kernel
theorem d_Model_pointsOf_143 : decode b_Model_pointsOf 143 = .ok (.lload 5, 2) := by decide +kernel
theorem d_Model_pointsOf_145 : decode b_Model_pointsOf 145 = .ok (.lreturn, 1) := by decide +kernel
theorem d_Model_scoreOf_0 : decode b_Model_scoreOf 0 = .ok (.lconst 0, 1) := by decide +kernel
theorem d_Model_scoreOf_1 : decode b_Model_scoreOf 1 = .ok (.lstore_n 2, 1) := by decide +kernel
theorem d_Model_scoreOf_2 : decode b_Model_scoreOf 2 = .ok (.iconst 0, 1) := by decide +kernel
theorem d_Model_scoreOf_3 : decode b_Model_scoreOf 3 = .ok (.istore 4, 2) := by decide +kernel
theorem d_Model_scoreOf_5 : decode b_Model_scoreOf 5 = .ok (.iload 4, 2) := by decide +kernel
theorem d_Model_scoreOf_7 : decode b_Model_scoreOf 7 = .ok (.aload_n 0, 1) := by decide +kernel
theorem d_Model_scoreOf_8 : decode b_Model_scoreOf 8 = .ok (.getfield 64, 3) := by decide +kernel
theorem d_Model_scoreOf_11 : decode b_Model_scoreOf 11 = .ok (.if_icmp .ge 33, 3) := by decide +kernel
theorem d_Model_scoreOf_14 : decode b_Model_scoreOf 14 = .ok (.lload_n 2, 1) := by decide +kernel
theorem d_Model_scoreOf_15 : decode b_Model_scoreOf 15 = .ok (.aload_n 0, 1) := by decide +kernel
theorem d_Model_scoreOf_16 : decode b_Model_scoreOf 16 = .ok (.iload_n 1, 1) := by decide +kernel
theorem d_Model_scoreOf_17 : decode b_Model_scoreOf 17 = .ok (.iload 4, 2) := by decide +kernel
theorem d_Model_scoreOf_19 : decode b_Model_scoreOf 19 = .ok (.invokevirtual 117, 3) := by decide +kernel
theorem d_Model_scoreOf_22 : decode b_Model_scoreOf 22 = .ok (.ifCond .lt 13, 3) := by decide +kernel
theorem d_Model_scoreOf_25 : decode b_Model_scoreOf 25 = .ok (.aload_n 0, 1) := by decide +kernel
theorem d_Model_scoreOf_26 : decode b_Model_scoreOf 26 = .ok (.iload_n 1, 1) := by decide +kernel
theorem d_Model_scoreOf_27 : decode b_Model_scoreOf 27 = .ok (.iload 4, 2) := by decide +kernel
theorem d_Model_scoreOf_29 : decode b_Model_scoreOf 29 = .ok (.invokevirtual 123, 3) := by decide +kernel
theorem d_Model_scoreOf_32 : decode b_Model_scoreOf 32 = .ok (.goto 4, 3) := by decide +kernel
theorem d_Model_scoreOf_35 : decode b_Model_scoreOf 35 = .ok (.lconst 0, 1) := by decide +kernel
theorem d_Model_scoreOf_36 : decode b_Model_scoreOf 36 = .ok (.ladd, 1) := by decide +kernel
theorem d_Model_scoreOf_37 : decode b_Model_scoreOf 37 = .ok (.lstore_n 2, 1) := by decide +kernel
theorem d_Model_scoreOf_38 : decode b_Model_scoreOf 38 = .ok (.iinc 4 1, 3) := by decide +kernel
theorem d_Model_scoreOf_41 : decode b_Model_scoreOf 41 = .ok (.goto (-36), 3) := by decide +kernel
theorem d_Model_scoreOf_44 : decode b_Model_scoreOf 44 = .ok (.lload_n 2, 1) := by decide +kernel
theorem d_Model_scoreOf_45 : decode b_Model_scoreOf 45 = .ok (.lreturn, 1) := by decide +kernel
theorem d_Model_timeOf_0 : decode b_Model_timeOf 0 = .ok (.lconst 0, 1) := by decide +kernel
theorem d_Model_timeOf_1 : decode b_Model_timeOf 1 = .ok (.lstore_n 2, 1) := by decide +kernel
theorem d_Model_timeOf_2 : decode b_Model_timeOf 2 = .ok (.iconst 0, 1) := by decide +kernel
theorem d_Model_timeOf_3 : decode b_Model_timeOf 3 = .ok (.istore 4, 2) := by decide +kernel
theorem d_Model_timeOf_5 : decode b_Model_timeOf 5 = .ok (.iload 4, 2) := by decide +kernel
theorem d_Model_timeOf_7 : decode b_Model_timeOf 7 = .ok (.aload_n 0, 1) := by decide +kernel
theorem d_Model_timeOf_8 : decode b_Model_timeOf 8 = .ok (.getfield 64, 3) := by decide +kernel
theorem d_Model_timeOf_11 : decode b_Model_timeOf 11 = .ok (.if_icmp .ge 38, 3) := by decide +kernel
theorem d_Model_timeOf_14 : decode b_Model_timeOf 14 = .ok (.lload_n 2, 1) := by decide +kernel
theorem d_Model_timeOf_15 : decode b_Model_timeOf 15 = .ok (.aload_n 0, 1) := by decide +kernel
theorem d_Model_timeOf_16 : decode b_Model_timeOf 16 = .ok (.iload_n 1, 1) := by decide +kernel
theorem d_Model_timeOf_17 : decode b_Model_timeOf 17 = .ok (.iload 4, 2) := by decide +kernel
theorem d_Model_timeOf_19 : decode b_Model_timeOf 19 = .ok (.invokevirtual 117, 3) := by decide +kernel
theorem d_Model_timeOf_22 : decode b_Model_timeOf 22 = .ok (.ifCond .lt 18, 3) := by decide +kernel
theorem d_Model_timeOf_25 : decode b_Model_timeOf 25 = .ok (.aload_n 0, 1) := by decide +kernel
theorem d_Model_timeOf_26 : decode b_Model_timeOf 26 = .ok (.aload_n 0, 1) := by decide +kernel
theorem d_Model_timeOf_27 : decode b_Model_timeOf 27 = .ok (.iload_n 1, 1) := by decide +kernel
theorem d_Model_timeOf_28 : decode b_Model_timeOf 28 = .ok (.iload 4, 2) := by decide +kernel
theorem d_Model_timeOf_30 : decode b_Model_timeOf 30 = .ok (.invokevirtual 117, 3) := by decide +kernel
theorem d_Model_timeOf_33 : decode b_Model_timeOf 33 = .ok (.invokevirtual 103, 3) := by decide +kernel
theorem d_Model_timeOf_36 : decode b_Model_timeOf 36 = .ok (.i2l, 1) := by decide +kernel
theorem d_Model_timeOf_37 : decode b_Model_timeOf 37 = .ok (.goto 4, 3) := by decide +kernel
theorem d_Model_timeOf_40 : decode b_Model_timeOf 40 = .ok (.lconst 0, 1) := by decide +kernel
theorem d_Model_timeOf_41 : decode b_Model_timeOf 41 = .ok (.ladd, 1) := by decide +kernel
theorem d_Model_timeOf_42 : decode b_Model_timeOf 42 = .ok (.lstore_n 2, 1) := by decide +kernel
theorem d_Model_timeOf_43 : decode b_Model_timeOf 43 = .ok (.iinc 4 1, 3) := by decide +kernel
theorem d_Model_timeOf_46 : decode b_Model_timeOf 46 = .ok (.goto (-41), 3) := by decide +kernel
theorem d_Model_timeOf_49 : decode b_Model_timeOf 49 = .ok (.lload_n 2, 1) := by decide +kernel
theorem d_Model_timeOf_50 : decode b_Model_timeOf 50 = .ok (.lreturn, 1) := by decide +kernel
theorem d_Model_reckon_0 : decode b_Model_reckon 0 = .ok (.iconst 0, 1) := by decide +kernel
theorem d_Model_reckon_1 : decode b_Model_reckon 1 = .ok (.istore_n 1, 1) := by decide +kernel
theorem d_Model_reckon_2 : decode b_Model_reckon 2 = .ok (.iload_n 1, 1) := by decide +kernel
theorem d_Model_reckon_3 : decode b_Model_reckon 3 = .ok (.aload_n 0, 1) := by decide +kernel
theorem d_Model_reckon_4 : decode b_Model_reckon 4 = .ok (.getfield 67, 3) := by decide +kernel
theorem d_Model_reckon_7 : decode b_Model_reckon 7 = .ok (.if_icmp .ge 31, 3) := by decide +kernel
theorem d_Model_reckon_10 : decode b_Model_reckon 10 = .ok (.aload_n 0, 1) := by decide +kernel
theorem d_Model_reckon_11 : decode b_Model_reckon 11 = .ok (.getfield 53, 3) := by decide +kernel
theorem d_Model_reckon_14 : decode b_Model_reckon 14 = .ok (.iload_n 1, 1) := by decide +kernel
theorem d_Model_reckon_15 : decode b_Model_reckon 15 = .ok (.aload_n 0, 1) := by decide +kernel
theorem d_Model_reckon_16 : decode b_Model_reckon 16 = .ok (.iload_n 1, 1) := by decide +kernel
theorem d_Model_reckon_17 : decode b_Model_reckon 17 = .ok (.invokevirtual 127, 3) := by decide +kernel
theorem d_Model_reckon_20 : decode b_Model_reckon 20 = .ok (.lastore, 1) := by decide +kernel
theorem d_Model_reckon_21 : decode b_Model_reckon 21 = .ok (.aload_n 0, 1) := by decide +kernel
theorem d_Model_reckon_22 : decode b_Model_reckon 22 = .ok (.getfield 57, 3) := by decide +kernel
theorem d_Model_reckon_25 : decode b_Model_reckon 25 = .ok (.iload_n 1, 1) := by decide +kernel
theorem d_Model_reckon_26 : decode b_Model_reckon 26 = .ok (.aload_n 0, 1) := by decide +kernel
theorem d_Model_reckon_27 : decode b_Model_reckon 27 = .ok (.iload_n 1, 1) := by decide +kernel
theorem d_Model_reckon_28 : decode b_Model_reckon 28 = .ok (.invokevirtual 131, 3) := by decide +kernel
theorem d_Model_reckon_31 : decode b_Model_reckon 31 = .ok (.lastore, 1) := by decide +kernel
theorem d_Model_reckon_32 : decode b_Model_reckon 32 = .ok (.iinc 1 1, 3) := by decide +kernel
theorem d_Model_reckon_35 : decode b_Model_reckon 35 = .ok (.goto (-33), 3) := by decide +kernel
theorem d_Model_reckon_38 : decode b_Model_reckon 38 = .ok (.return_, 1) := by decide +kernel
theorem d_Model_isBetter_0 : decode b_Model_isBetter 0 = .ok (.aload_n 0, 1) := by decide +kernel
theorem d_Model_isBetter_1 : decode b_Model_isBetter 1 = .ok (.getfield 53, 3) := by decide +kernel
theorem d_Model_isBetter_4 : decode b_Model_isBetter 4 = .ok (.iload_n 1, 1) := by decide +kernel
theorem d_Model_isBetter_5 : decode b_Model_isBetter 5 = .ok (.laload, 1) := by decide +kernel
theorem d_Model_isBetter_6 : decode b_Model_isBetter 6 = .ok (.aload_n 0, 1) := by decide +kernel
theorem d_Model_isBetter_7 : decode b_Model_isBetter 7 = .ok (.getfield 53, 3) := by decide +kernel
theorem d_Model_isBetter_10 : decode b_Model_isBetter 10 = .ok (.iload_n 2, 1) := by decide +kernel
theorem d_Model_isBetter_11 : decode b_Model_isBetter 11 = .ok (.laload, 1) := by decide +kernel
theorem d_Model_isBetter_12 : decode b_Model_isBetter 12 = .ok (.lcmp, 1) := by decide +kernel
theorem d_Model_isBetter_13 : decode b_Model_isBetter 13 = .ok (.ifCond .gt 45, 3) := by decide +kernel
theorem d_Model_isBetter_16 : decode b_Model_isBetter 16 = .ok (.aload_n 0, 1) := by decide +kernel
theorem d_Model_isBetter_17 : decode b_Model_isBetter 17 = .ok (.getfield 53, 3) := by decide +kernel
theorem d_Model_isBetter_20 : decode b_Model_isBetter 20 = .ok (.iload_n 1, 1) := by decide +kernel
theorem d_Model_isBetter_21 : decode b_Model_isBetter 21 = .ok (.laload, 1) := by decide +kernel
theorem d_Model_isBetter_22 : decode b_Model_isBetter 22 = .ok (.aload_n 0, 1) := by decide +kernel
theorem d_Model_isBetter_23 : decode b_Model_isBetter 23 = .ok (.getfield 53, 3) := by decide +kernel
theorem d_Model_isBetter_26 : decode b_Model_isBetter 26 = .ok (.iload_n 2, 1) := by decide +kernel
theorem d_Model_isBetter_27 : decode b_Model_isBetter 27 = .ok (.laload, 1) := by decide +kernel
theorem d_Model_isBetter_28 : decode b_Model_isBetter 28 = .ok (.lcmp, 1) := by decide +kernel
theorem d_Model_isBetter_29 : decode b_Model_isBetter 29 = .ok (.ifCond .ne 33, 3) := by decide +kernel
theorem d_Model_isBetter_32 : decode b_Model_isBetter 32 = .ok (.aload_n 0, 1) := by decide +kernel
theorem d_Model_isBetter_33 : decode b_Model_isBetter 33 = .ok (.getfield 32, 3) := by decide +kernel
theorem d_Model_isBetter_36 : decode b_Model_isBetter 36 = .ok (.iconst 4, 1) := by decide +kernel
theorem d_Model_isBetter_37 : decode b_Model_isBetter 37 = .ok (.iaload, 1) := by decide +kernel
theorem d_Model_isBetter_38 : decode b_Model_isBetter 38 = .ok (.iconst 1, 1) := by decide +kernel
theorem d_Model_isBetter_39 : decode b_Model_isBetter 39 = .ok (.if_icmp .ne 23, 3) := by decide +kernel
theorem d_Model_isBetter_42 : decode b_Model_isBetter 42 = .ok (.aload_n 0, 1) := by decide +kernel
theorem d_Model_isBetter_43 : decode b_Model_isBetter 43 = .ok (.getfield 57, 3) := by decide +kernel
theorem d_Model_isBetter_46 : decode b_Model_isBetter 46 = .ok (.iload_n 1, 1) := by decide +kernel
theorem d_Model_isBetter_47 : decode b_Model_isBetter 47 = .ok (.laload, 1) := by decide +kernel
theorem d_Model_isBetter_48 : decode b_Model_isBetter 48 = .ok (.aload_n 0, 1) := by decide +kernel
theorem d_Model_isBetter_49 : decode b_Model_isBetter 49 = .ok (.getfield 57, 3) := by decide +kernel
theorem d_Model_isBetter_52 : decode b_Model_isBetter 52 = .ok (.iload_n 2, 1) := by decide +kernel
theorem d_Model_isBetter_53 : decode b_Model_isBetter 53 = .ok (.laload, 1) := by decide +kernel
theorem d_Model_isBetter_54 : decode b_Model_isBetter 54 = .ok (.lcmp, 1) := by decide +kernel
theorem d_Model_isBetter_55 : decode b_Model_isBetter 55 = .ok (.ifCond .ge 7, 3) := by decide +kernel
theorem d_Model_isBetter_58 : decode b_Model_isBetter 58 = .ok (.iconst 1, 1) := by decide +kernel
theorem d_Model_isBetter_59 : decode b_Model_isBetter 59 = .ok (.goto 4, 3) := by decide +kernel
theorem d_Model_isBetter_62 : decode b_Model_isBetter 62 = .ok (.iconst 0, 1) := by decide +kernel
theorem d_Model_isBetter_63 : decode b_Model_isBetter 63 = .ok (.ireturn, 1) := by decide +kernel
theorem d_Model_isAlike_0 : decode b_Model_isAlike 0 = .ok (.aload_n 0, 1) := by decide +kernel
theorem d_Model_isAlike_1 : decode b_Model_isAlike 1 = .ok (.iload_n 1, 1) := by decide +kernel
theorem d_Model_isAlike_2 : decode b_Model_isAlike 2 = .ok (.iload_n 2, 1) := by decide +kernel
theorem d_Model_isAlike_3 : decode b_Model_isAlike 3 = .ok (.invokevirtual 134, 3) := by decide +kernel
theorem d_Model_isAlike_6 : decode b_Model_isAlike 6 = .ok (.ifCond .ne 16, 3) := by decide +kernel
theorem d_Model_isAlike_9 : decode b_Model_isAlike 9 = .ok (.aload_n 0, 1) := by decide +kernel
theorem d_Model_isAlike_10 : decode b_Model_isAlike 10 = .ok (.iload_n 2, 1) := by decide +kernel
theorem d_Model_isAlike_11 : decode b_Model_isAlike 11 = .ok (.iload_n 1, 1) := by decide +kernel
theorem d_Model_isAlike_12 : decode b_Model_isAlike 12 = .ok (.invokevirtual 134, 3) := by decide +kernel
theorem d_Model_isAlike_15 : decode b_Model_isAlike 15 = .ok (.ifCond .ne 7, 3) := by decide +kernel
theorem d_Model_isAlike_18 : decode b_Model_isAlike 18 = .ok (.iconst 1, 1) := by decide +kernel
theorem d_Model_isAlike_19 : decode b_Model_isAlike 19 = .ok (.goto 4, 3) := by decide +kernel
theorem d_Model_isAlike_22 : decode b_Model_isAlike 22 = .ok (.iconst 0, 1) := by decide +kernel
theorem d_Model_isAlike_23 : decode b_Model_isAlike 23 = .ok (.ireturn, 1) := by decide +kernel
theorem d_Model_score_0 : decode b_Model_score 0 = .ok (.aload_n 0, 1) := by decide +kernel
theorem d_Model_score_1 : decode b_Model_score 1 = .ok (.iconst 0, 1) := by decide +kernel
theorem d_Model_score_2 : decode b_Model_score 2 = .ok (.putfield 60, 3) := by decide +kernel
theorem d_Model_score_5 : decode b_Model_score 5 = .ok (.aload_n 0, 1) := by decide +kernel
theorem d_Model_score_6 : decode b_Model_score 6 = .ok (.iload_n 1, 1) := by decide +kernel
theorem d_Model_score_7 : decode b_Model_score 7 = .ok (.invokevirtual 93, 3) := by decide +kernel
theorem d_Model_score_10 : decode b_Model_score 10 = .ok (.ifCond .ne 7, 3) := by decide +kernel
theorem d_Model_score_13 : decode b_Model_score 13 = .ok (.ldc2_w 121, 3) := by decide +kernel
theorem d_Model_score_16 : decode b_Model_score 16 = .ok (.lreturn, 1) := by decide +kernel
theorem d_Model_score_17 : decode b_Model_score 17 = .ok (.iconst 0, 1) := by decide +kernel
theorem d_Model_score_18 : decode b_Model_score 18 = .ok (.istore_n 3, 1) := by decide +kernel
theorem d_Model_score_19 : decode b_Model_score 19 = .ok (.iload_n 2, 1) := by decide +kernel
theorem d_Model_score_20 : decode b_Model_score 20 = .ok (.tableswitch 128 0 3 #[32, 38, 44, 83], 32) := by decide +kernel
theorem d_Model_score_52 : decode b_Model_score 52 = .ok (.aload_n 0, 1) := by decide +kernel
theorem d_Model_score_53 : decode b_Model_score 53 = .ok (.iload_n 1, 1) := by decide +kernel
theorem d_Model_score_54 : decode b_Model_score 54 = .ok (.invokevirtual 127, 3) := by decide +kernel
theorem d_Model_score_57 : decode b_Model_score 57 = .ok (.lreturn, 1) := by decide +kernel
theorem d_Model_score_58 : decode b_Model_score 58 = .ok (.aload_n 0, 1) := by decide +kernel
theorem d_Model_score_59 : decode b_Model_score 59 = .ok (.iload_n 1, 1) := by decide +kernel
theorem d_Model_score_60 : decode b_Model_score 60 = .ok (.invokevirtual 131, 3) := by decide +kernel
theorem d_Model_score_63 : decode b_Model_score 63 = .ok (.lreturn, 1) := by decide +kernel
theorem d_Model_score_64 : decode b_Model_score 64 = .ok (.iconst 0, 1) := by decide +kernel
theorem d_Model_score_65 : decode b_Model_score 65 = .ok (.istore 4, 2) := by decide +kernel
theorem d_Model_score_67 : decode b_Model_score 67 = .ok (.iload 4, 2) := by decide +kernel
theorem d_Model_score_69 : decode b_Model_score 69 = .ok (.aload_n 0, 1) := by decide +kernel
theorem d_Model_score_70 : decode b_Model_score 70 = .ok (.getfield 64, 3) := by decide +kernel
theorem d_Model_score_73 : decode b_Model_score 73 = .ok (.if_icmp .ge 27, 3) := by decide +kernel
theorem d_Model_score_76 : decode b_Model_score 76 = .ok (.iload_n 3, 1) := by decide +kernel
theorem d_Model_score_77 : decode b_Model_score 77 = .ok (.aload_n 0, 1) := by decide +kernel
theorem d_Model_score_78 : decode b_Model_score 78 = .ok (.iload_n 1, 1) := by decide +kernel
theorem d_Model_score_79 : decode b_Model_score 79 = .ok (.iload 4, 2) := by decide +kernel
theorem d_Model_score_81 : decode b_Model_score 81 = .ok (.invokevirtual 117, 3) := by decide +kernel
theorem d_Model_score_84 : decode b_Model_score 84 = .ok (.ifCond .lt 7, 3) := by decide +kernel
theorem d_Model_score_87 : decode b_Model_score 87 = .ok (.iconst 1, 1) := by decide +kernel
theorem d_Model_score_88 : decode b_Model_score 88 = .ok (.goto 4, 3) := by decide +kernel
theorem d_Model_score_91 : decode b_Model_score 91 = .ok (.iconst 0, 1) := by decide +kernel
theorem d_Model_score_92 : decode b_Model_score 92 = .ok (.iadd, 1) := by decide +kernel
theorem d_Model_score_93 : decode b_Model_score 93 = .ok (.istore_n 3, 1) := by decide +kernel
theorem d_Model_score_94 : decode b_Model_score 94 = .ok (.iinc 4 1, 3) := by decide +kernel
theorem d_Model_score_97 : decode b_Model_score 97 = .ok (.goto (-30), 3) := by decide +kernel
theorem d_Model_score_100 : decode b_Model_score 100 = .ok (.iload_n 3, 1) := by decide +kernel
theorem d_Model_score_101 : decode b_Model_score 101 = .ok (.i2l, 1) := by decide +kernel
theorem d_Model_score_102 : decode b_Model_score 102 = .ok (.lreturn, 1) := by decide +kernel
theorem d_Model_score_103 : decode b_Model_score 103 = .ok (.aload_n 0, 1) := by decide +kernel
theorem d_Model_score_104 : decode b_Model_score 104 = .ok (.invokevirtual 137, 3) := by decide +kernel
theorem d_Model_score_107 : decode b_Model_score 107 = .ok (.iconst 0, 1) := by decide +kernel
theorem d_Model_score_108 : decode b_Model_score 108 = .ok (.istore 4, 2) := by decide +kernel
theorem d_Model_score_110 : decode b_Model_score 110 = .ok (.iload 4, 2) := by decide +kernel
theorem d_Model_score_112 : decode b_Model_score 112 = .ok (.aload_n 0, 1) := by decide +kernel
theorem d_Model_score_113 : decode b_Model_score 113 = .ok (.getfield 67, 3) := by decide +kernel
theorem d_Model_score_116 : decode b_Model_score 116 = .ok (.if_icmp .ge 27, 3) := by decide +kernel
theorem d_Model_score_119 : decode b_Model_score 119 = .ok (.iload_n 3, 1) := by decide +kernel
theorem d_Model_score_120 : decode b_Model_score 120 = .ok (.aload_n 0, 1) := by decide +kernel
theorem d_Model_score_121 : decode b_Model_score 121 = .ok (.iload 4, 2) := by decide +kernel
theorem d_Model_score_123 : decode b_Model_score 123 = .ok (.iload_n 1, 1) := by decide +kernel
theorem d_Model_score_124 : decode b_Model_score 124 = .ok (.invokevirtual 134, 3) := by decide +kernel
theorem d_Model_score_127 : decode b_Model_score 127 = .ok (.ifCond .eq 7, 3) := by decide +kernel
theorem d_Model_score_130 : decode b_Model_score 130 = .ok (.iconst 1, 1) := by decide +kernel
theorem d_Model_score_131 : decode b_Model_score 131 = .ok (.goto 4, 3) := by decide +kernel
theorem d_Model_score_134 : decode b_Model_score 134 = .ok (.iconst 0, 1) := by decide +kernel
theorem d_Model_score_135 : decode b_Model_score 135 = .ok (.iadd, 1) := by decide +kernel
theorem d_Model_score_136 : decode b_Model_score 136 = .ok (.istore_n 3, 1) := by decide +kernel
theorem d_Model_score_137 : decode b_Model_score 137 = .ok (.iinc 4 1, 3) := by decide +kernel
theorem d_Model_score_140 : decode b_Model_score 140 = .ok (.goto (-30), 3) := by decide +kernel
theorem d_Model_score_143 : decode b_Model_score 143 = .ok (.lconst 1, 1) := by decide +kernel
theorem d_Model_score_144 : decode b_Model_score 144 = .ok (.iload_n 3, 1) := by decide +kernel
theorem d_Model_score_145 : decode b_Model_score 145 = .ok (.i2l, 1) := by decide +kernel
theorem d_Model_score_146 : decode b_Model_score 146 = .ok (.ladd, 1) := by decide +kernel
theorem d_Model_score_147 : decode b_Model_score 147 = .ok (.lreturn, 1) := by decide +kernel
theorem d_Model_score_148 : decode b_Model_score 148 = .ok (.ldc2_w 121, 3) := by decide +kernel
theorem d_Model_score_151 : decode b_Model_score 151 = .ok (.lreturn, 1) := by decide +kernel
theorem d_Model_points_0 : decode b_Model_points 0 = .ok (.aload_n 0, 1) := by decide +kernel
theorem d_Model_points_1 : decode b_Model_points 1 = .ok (.iconst 0, 1) := by decide +kernel
theorem d_Model_points_2 : decode b_Model_points 2 = .ok (.putfield 60, 3) := by decide +kernel
theorem d_Model_points_5 : decode b_Model_points 5 = .ok (.aload_n 0, 1) := by decide +kernel
theorem d_Model_points_6 : decode b_Model_points 6 = .ok (.iload_n 1, 1) := by decide +kernel
theorem d_Model_points_7 : decode b_Model_points 7 = .ok (.invokevirtual 93, 3) := by decide +kernel
theorem d_Model_points_10 : decode b_Model_points 10 = .ok (.ifCond .eq 20, 3) := by decide +kernel
theorem d_Model_points_13 : decode b_Model_points 13 = .ok (.aload_n 0, 1) := by decide +kernel
theorem d_Model_points_14 : decode b_Model_points 14 = .ok (.iload_n 2, 1) := by decide +kernel
theorem d_Model_points_15 : decode b_Model_points 15 = .ok (.invokevirtual 97, 3) := by decide +kernel
theorem d_Model_points_18 : decode b_Model_points 18 = .ok (.ifCond .eq 12, 3) := by decide +kernel
theorem d_Model_points_21 : decode b_Model_points 21 = .ok (.aload_n 0, 1) := by decide +kernel
theorem d_Model_points_22 : decode b_Model_points 22 = .ok (.iload_n 1, 1) := by decide +kernel
theorem d_Model_points_23 : decode b_Model_points 23 = .ok (.iload_n 2, 1) := by decide +kernel
theorem d_Model_points_24 : decode b_Model_points 24 = .ok (.invokevirtual 123, 3) := by decide +kernel
theorem d_Model_points_27 : decode b_Model_points 27 = .ok (.goto 6, 3) := by decide +kernel
theorem d_Model_points_30 : decode b_Model_points 30 = .ok (.ldc2_w 121, 3) := by decide +kernel
theorem d_Model_points_33 : decode b_Model_points 33 = .ok (.lreturn, 1) := by decide +kernel
theorem d_Model_place_0 : decode b_Model_place 0 = .ok (.aload_n 0, 1) := by decide +kernel
theorem d_Model_place_1 : decode b_Model_place 1 = .ok (.iconst 0, 1) := by decide +kernel
theorem d_Model_place_2 : decode b_Model_place 2 = .ok (.putfield 60, 3) := by decide +kernel
theorem d_Model_place_5 : decode b_Model_place 5 = .ok (.aload_n 0, 1) := by decide +kernel
theorem d_Model_place_6 : decode b_Model_place 6 = .ok (.invokevirtual 137, 3) := by decide +kernel
theorem d_Model_place_9 : decode b_Model_place 9 = .ok (.iconst 0, 1) := by decide +kernel
theorem d_Model_place_10 : decode b_Model_place 10 = .ok (.istore_n 2, 1) := by decide +kernel
theorem d_Model_place_11 : decode b_Model_place 11 = .ok (.iload_n 2, 1) := by decide +kernel
theorem d_Model_place_12 : decode b_Model_place 12 = .ok (.aload_n 0, 1) := by decide +kernel
theorem d_Model_place_13 : decode b_Model_place 13 = .ok (.getfield 67, 3) := by decide +kernel
theorem d_Model_place_16 : decode b_Model_place 16 = .ok (.if_icmp .ge 70, 3) := by decide +kernel
theorem d_Model_place_19 : decode b_Model_place 19 = .ok (.iconst 0, 1) := by decide +kernel
theorem d_Model_place_20 : decode b_Model_place 20 = .ok (.istore_n 3, 1) := by decide +kernel
theorem d_Model_place_21 : decode b_Model_place 21 = .ok (.iconst 0, 1) := by decide +kernel
theorem d_Model_place_22 : decode b_Model_place 22 = .ok (.istore 4, 2) := by decide +kernel
theorem d_Model_place_24 : decode b_Model_place 24 = .ok (.iload 4, 2) := by decide +kernel
theorem d_Model_place_26 : decode b_Model_place 26 = .ok (.aload_n 0, 1) := by decide +kernel
theorem d_Model_place_27 : decode b_Model_place 27 = .ok (.getfield 67, 3) := by decide +kernel
theorem d_Model_place_30 : decode b_Model_place 30 = .ok (.if_icmp .ge 43, 3) := by decide +kernel
theorem d_Model_place_33 : decode b_Model_place 33 = .ok (.iload_n 3, 1) := by decide +kernel
theorem d_Model_place_34 : decode b_Model_place 34 = .ok (.aload_n 0, 1) := by decide +kernel
theorem d_Model_place_35 : decode b_Model_place 35 = .ok (.iload 4, 2) := by decide +kernel
theorem d_Model_place_37 : decode b_Model_place 37 = .ok (.iload_n 2, 1) := by decide +kernel
theorem d_Model_place_38 : decode b_Model_place 38 = .ok (.invokevirtual 134, 3) := by decide +kernel
theorem d_Model_place_41 : decode b_Model_place 41 = .ok (.ifCond .ne 19, 3) := by decide +kernel
theorem d_Model_place_44 : decode b_Model_place 44 = .ok (.iload 4, 2) := by decide +kernel
theorem d_Model_place_46 : decode b_Model_place 46 = .ok (.iload_n 2, 1) := by decide +kernel
theorem d_Model_place_47 : decode b_Model_place 47 = .ok (.if_icmp .ge 17, 3) := by decide +kernel
theorem d_Model_place_50 : decode b_Model_place 50 = .ok (.aload_n 0, 1) := by decide +kernel
theorem d_Model_place_51 : decode b_Model_place 51 = .ok (.iload 4, 2) := by decide +kernel
theorem d_Model_place_53 : decode b_Model_place 53 = .ok (.iload_n 2, 1) := by decide +kernel
theorem d_Model_place_54 : decode b_Model_place 54 = .ok (.invokevirtual 140, 3) := by decide +kernel
theorem d_Model_place_57 : decode b_Model_place 57 = .ok (.ifCond .eq 7, 3) := by decide +kernel
theorem d_Model_place_60 : decode b_Model_place 60 = .ok (.iconst 1, 1) := by decide +kernel
theorem d_Model_place_61 : decode b_Model_place 61 = .ok (.goto 4, 3) := by decide +kernel
theorem d_Model_place_64 : decode b_Model_place 64 = .ok (.iconst 0, 1) := by decide +kernel
theorem d_Model_place_65 : decode b_Model_place 65 = .ok (.iadd, 1) := by decide +kernel
theorem d_Model_place_66 : decode b_Model_place 66 = .ok (.istore_n 3, 1) := by decide +kernel
theorem d_Model_place_67 : decode b_Model_place 67 = .ok (.iinc 4 1, 3) := by decide +kernel
theorem d_Model_place_70 : decode b_Model_place 70 = .ok (.goto (-46), 3) := by decide +kernel
theorem d_Model_place_73 : decode b_Model_place 73 = .ok (.iload_n 3, 1) := by decide +kernel
theorem d_Model_place_74 : decode b_Model_place 74 = .ok (.iload_n 1, 1) := by decide +kernel
theorem d_Model_place_75 : decode b_Model_place 75 = .ok (.if_icmp .ne 5, 3) := by decide +kernel
theorem d_Model_place_78 : decode b_Model_place 78 = .ok (.iload_n 2, 1) := by decide +kernel
theorem d_Model_place_79 : decode b_Model_place 79 = .ok (.ireturn, 1) := by decide +kernel
theorem d_Model_place_80 : decode b_Model_place 80 = .ok (.iinc 2 1, 3) := by decide +kernel
theorem d_Model_place_83 : decode b_Model_place 83 = .ok (.goto (-72), 3) := by decide +kernel
theorem d_Model_place_86 : decode b_Model_place 86 = .ok (.iconst (-1), 1) := by decide +kernel
theorem d_Model_place_87 : decode b_Model_place 87 = .ok (.ireturn, 1) := by decide +kernel
theorem d_Model_shared_0 : decode b_Model_shared 0 = .ok (.aload_n 0, 1) := by decide +kernel
theorem d_Model_shared_1 : decode b_Model_shared 1 = .ok (.iconst 0, 1) := by decide +kernel
theorem d_Model_shared_2 : decode b_Model_shared 2 = .ok (.putfield 60, 3) := by decide +kernel
theorem d_Model_shared_5 : decode b_Model_shared 5 = .ok (.aload_n 0, 1) := by decide +kernel
theorem d_Model_shared_6 : decode b_Model_shared 6 = .ok (.invokevirtual 137, 3) := by decide +kernel
theorem d_Model_shared_9 : decode b_Model_shared 9 = .ok (.aload_n 0, 1) := by decide +kernel
theorem d_Model_shared_10 : decode b_Model_shared 10 = .ok (.iload_n 1, 1) := by decide +kernel
theorem d_Model_shared_11 : decode b_Model_shared 11 = .ok (.invokevirtual 93, 3) := by decide +kernel
theorem d_Model_shared_14 : decode b_Model_shared 14 = .ok (.ifCond .eq 24, 3) := by decide +kernel
theorem d_Model_shared_17 : decode b_Model_shared 17 = .ok (.aload_n 0, 1) := by decide +kernel
theorem d_Model_shared_18 : decode b_Model_shared 18 = .ok (.iload_n 2, 1) := by decide +kernel
theorem d_Model_shared_19 : decode b_Model_shared 19 = .ok (.invokevirtual 93, 3) := by decide +kernel
theorem d_Model_shared_22 : decode b_Model_shared 22 = .ok (.ifCond .eq 16, 3) := by decide +kernel
theorem d_Model_shared_25 : decode b_Model_shared 25 = .ok (.aload_n 0, 1) := by decide +kernel
theorem d_Model_shared_26 : decode b_Model_shared 26 = .ok (.iload_n 1, 1) := by decide +kernel
theorem d_Model_shared_27 : decode b_Model_shared 27 = .ok (.iload_n 2, 1) := by decide +kernel
theorem d_Model_shared_28 : decode b_Model_shared 28 = .ok (.invokevirtual 140, 3) := by decide +kernel
theorem d_Model_shared_31 : decode b_Model_shared 31 = .ok (.ifCond .eq 7, 3) := by decide +kernel
theorem d_Model_shared_34 : decode b_Model_shared 34 = .ok (.iconst 1, 1) := by decide +kernel
theorem d_Model_shared_35 : decode b_Model_shared 35 = .ok (.goto 4, 3) := by decide +kernel
theorem d_Model_shared_38 : decode b_Model_shared 38 = .ok (.iconst 0, 1) := by decide +kernel
theorem d_Model_shared_39 : decode b_Model_shared 39 = .ok (.ireturn, 1) := by decide +kernel
theorem d_Model_firstWrong_0 : decode b_Model_firstWrong 0 = .ok (.iconst 0, 1) := by decide +kernel
theorem d_Model_firstWrong_1 : decode b_Model_firstWrong 1 = .ok (.istore 4, 2) := by decide +kernel
theorem d_Model_firstWrong_3 : decode b_Model_firstWrong 3 = .ok (.iload 4, 2) := by decide +kernel
theorem d_Model_firstWrong_5 : decode b_Model_firstWrong 5 = .ok (.aload_n 0, 1) := by decide +kernel
theorem d_Model_firstWrong_6 : decode b_Model_firstWrong 6 = .ok (.getfield 70, 3) := by decide +kernel
theorem d_Model_firstWrong_9 : decode b_Model_firstWrong 9 = .ok (.if_icmp .ge 44, 3) := by decide +kernel
theorem d_Model_firstWrong_12 : decode b_Model_firstWrong 12 = .ok (.aload_n 0, 1) := by decide +kernel
theorem d_Model_firstWrong_13 : decode b_Model_firstWrong 13 = .ok (.iload 4, 2) := by decide +kernel
theorem d_Model_firstWrong_15 : decode b_Model_firstWrong 15 = .ok (.iload_n 1, 1) := by decide +kernel
theorem d_Model_firstWrong_16 : decode b_Model_firstWrong 16 = .ok (.iload_n 2, 1) := by decide +kernel
theorem d_Model_firstWrong_17 : decode b_Model_firstWrong 17 = .ok (.invokevirtual 109, 3) := by decide +kernel
theorem d_Model_firstWrong_20 : decode b_Model_firstWrong 20 = .ok (.ifCond .eq 27, 3) := by decide +kernel
theorem d_Model_firstWrong_23 : decode b_Model_firstWrong 23 = .ok (.aload_n 0, 1) := by decide +kernel
theorem d_Model_firstWrong_24 : decode b_Model_firstWrong 24 = .ok (.getfield 28, 3) := by decide +kernel
theorem d_Model_firstWrong_27 : decode b_Model_firstWrong 27 = .ok (.iload 4, 2) := by decide +kernel
theorem d_Model_firstWrong_29 : decode b_Model_firstWrong 29 = .ok (.baload, 1) := by decide +kernel
theorem d_Model_firstWrong_30 : decode b_Model_firstWrong 30 = .ok (.ifCond .ne 17, 3) := by decide +kernel
theorem d_Model_firstWrong_33 : decode b_Model_firstWrong 33 = .ok (.aload_n 0, 1) := by decide +kernel
theorem d_Model_firstWrong_34 : decode b_Model_firstWrong 34 = .ok (.getfield 25, 3) := by decide +kernel
theorem d_Model_firstWrong_37 : decode b_Model_firstWrong 37 = .ok (.iload 4, 2) := by decide +kernel
theorem d_Model_firstWrong_39 : decode b_Model_firstWrong 39 = .ok (.iaload, 1) := by decide +kernel
theorem d_Model_firstWrong_40 : decode b_Model_firstWrong 40 = .ok (.iload_n 3, 1) := by decide +kernel
theorem d_Model_firstWrong_41 : decode b_Model_firstWrong 41 = .ok (.if_icmp .ne 6, 3) := by decide +kernel
theorem d_Model_firstWrong_44 : decode b_Model_firstWrong 44 = .ok (.iload 4, 2) := by decide +kernel
theorem d_Model_firstWrong_46 : decode b_Model_firstWrong 46 = .ok (.ireturn, 1) := by decide +kernel
theorem d_Model_firstWrong_47 : decode b_Model_firstWrong 47 = .ok (.iinc 4 1, 3) := by decide +kernel
theorem d_Model_firstWrong_50 : decode b_Model_firstWrong 50 = .ok (.goto (-47), 3) := by decide +kernel
theorem d_Model_firstWrong_53 : decode b_Model_firstWrong 53 = .ok (.iconst (-1), 1) := by decide +kernel
theorem d_Model_firstWrong_54 : decode b_Model_firstWrong 54 = .ok (.ireturn, 1) := by decide +kernel
theorem d_Model_suspicious_0 : decode b_Model_suspicious 0 = .ok (.aload_n 0, 1) := by decide +kernel
theorem d_Model_suspicious_1 : decode b_Model_suspicious 1 = .ok (.iconst 0, 1) := by decide +kernel
theorem d_Model_suspicious_2 : decode b_Model_suspicious 2 = .ok (.putfield 60, 3) := by decide +kernel
theorem d_Model_suspicious_5 : decode b_Model_suspicious 5 = .ok (.iconst 0, 1) := by decide +kernel
theorem d_Model_suspicious_6 : decode b_Model_suspicious 6 = .ok (.istore_n 3, 1) := by decide +kernel
theorem d_Model_suspicious_7 : decode b_Model_suspicious 7 = .ok (.iconst 0, 1) := by decide +kernel
theorem d_Model_suspicious_8 : decode b_Model_suspicious 8 = .ok (.istore 4, 2) := by decide +kernel
theorem d_Model_suspicious_10 : decode b_Model_suspicious 10 = .ok (.iload 4, 2) := by decide +kernel
theorem d_Model_suspicious_12 : decode b_Model_suspicious 12 = .ok (.aload_n 0, 1) := by decide +kernel
theorem d_Model_suspicious_13 : decode b_Model_suspicious 13 = .ok (.getfield 70, 3) := by decide +kernel
theorem d_Model_suspicious_16 : decode b_Model_suspicious 16 = .ok (.if_icmp .ge 161, 3) := by decide +kernel
theorem d_Model_suspicious_19 : decode b_Model_suspicious 19 = .ok (.aload_n 0, 1) := by decide +kernel
theorem d_Model_suspicious_20 : decode b_Model_suspicious 20 = .ok (.getfield 16, 3) := by decide +kernel
theorem d_Model_suspicious_23 : decode b_Model_suspicious 23 = .ok (.iload 4, 2) := by decide +kernel
theorem d_Model_suspicious_25 : decode b_Model_suspicious 25 = .ok (.iaload, 1) := by decide +kernel
theorem d_Model_suspicious_26 : decode b_Model_suspicious 26 = .ok (.iconst 1, 1) := by decide +kernel
theorem d_Model_suspicious_27 : decode b_Model_suspicious 27 = .ok (.iadd, 1) := by decide +kernel
theorem d_Model_suspicious_28 : decode b_Model_suspicious 28 = .ok (.istore 5, 2) := by decide +kernel
theorem d_Model_suspicious_30 : decode b_Model_suspicious 30 = .ok (.iload 5, 2) := by decide +kernel
theorem d_Model_suspicious_32 : decode b_Model_suspicious 32 = .ok (.aload_n 0, 1) := by decide +kernel
theorem d_Model_suspicious_33 : decode b_Model_suspicious 33 = .ok (.getfield 67, 3) := by decide +kernel
theorem d_Model_suspicious_36 : decode b_Model_suspicious 36 = .ok (.if_icmp .ge 135, 3) := by decide +kernel
theorem d_Model_suspicious_39 : decode b_Model_suspicious 39 = .ok (.aload_n 0, 1) := by decide +kernel
theorem d_Model_suspicious_40 : decode b_Model_suspicious 40 = .ok (.getfield 28, 3) := by decide +kernel
theorem d_Model_suspicious_43 : decode b_Model_suspicious 43 = .ok (.iload 4, 2) := by decide +kernel
theorem d_Model_suspicious_45 : decode b_Model_suspicious 45 = .ok (.baload, 1) := by decide +kernel
theorem d_Model_suspicious_46 : decode b_Model_suspicious 46 = .ok (.ifCond .eq 7, 3) := by decide +kernel
theorem d_Model_suspicious_49 : decode b_Model_suspicious 49 = .ok (.iconst (-1), 1) := by decide +kernel
theorem d_Model_suspicious_50 : decode b_Model_suspicious 50 = .ok (.goto 23, 3) := by decide +kernel
theorem d_Model_suspicious_53 : decode b_Model_suspicious 53 = .ok (.aload_n 0, 1) := by decide +kernel
theorem d_Model_suspicious_54 : decode b_Model_suspicious 54 = .ok (.iload 5, 2) := by decide +kernel
theorem d_Model_suspicious_56 : decode b_Model_suspicious 56 = .ok (.aload_n 0, 1) := by decide +kernel
theorem d_Model_suspicious_57 : decode b_Model_suspicious 57 = .ok (.getfield 19, 3) := by decide +kernel
theorem d_Model_suspicious_60 : decode b_Model_suspicious 60 = .ok (.iload 4, 2) := by decide +kernel
theorem d_Model_suspicious_62 : decode b_Model_suspicious 62 = .ok (.iaload, 1) := by decide +kernel
theorem d_Model_suspicious_63 : decode b_Model_suspicious 63 = .ok (.aload_n 0, 1) := by decide +kernel
theorem d_Model_suspicious_64 : decode b_Model_suspicious 64 = .ok (.getfield 25, 3) := by decide +kernel
theorem d_Model_suspicious_67 : decode b_Model_suspicious 67 = .ok (.iload 4, 2) := by decide +kernel
theorem d_Model_suspicious_69 : decode b_Model_suspicious 69 = .ok (.iaload, 1) := by decide +kernel
theorem d_Model_suspicious_70 : decode b_Model_suspicious 70 = .ok (.invokevirtual 143, 3) := by decide +kernel
theorem d_Model_suspicious_73 : decode b_Model_suspicious 73 = .ok (.istore 6, 2) := by decide +kernel
theorem d_Model_suspicious_75 : decode b_Model_suspicious 75 = .ok (.iload 6, 2) := by decide +kernel
theorem d_Model_suspicious_77 : decode b_Model_suspicious 77 = .ok (.ifCond .ge 6, 3) := by decide +kernel
theorem d_Model_suspicious_80 : decode b_Model_suspicious 80 = .ok (.goto 85, 3) := by decide +kernel
theorem d_Model_suspicious_83 : decode b_Model_suspicious 83 = .ok (.aload_n 0, 1) := by decide +kernel
theorem d_Model_suspicious_84 : decode b_Model_suspicious 84 = .ok (.getfield 22, 3) := by decide +kernel
theorem d_Model_suspicious_87 : decode b_Model_suspicious 87 = .ok (.iload 4, 2) := by decide +kernel
theorem d_Model_suspicious_89 : decode b_Model_suspicious 89 = .ok (.iaload, 1) := by decide +kernel
theorem d_Model_suspicious_90 : decode b_Model_suspicious 90 = .ok (.aload_n 0, 1) := by decide +kernel
theorem d_Model_suspicious_91 : decode b_Model_suspicious 91 = .ok (.getfield 22, 3) := by decide +kernel
theorem d_Model_suspicious_94 : decode b_Model_suspicious 94 = .ok (.iload 6, 2) := by decide +kernel
theorem d_Model_suspicious_96 : decode b_Model_suspicious 96 = .ok (.iaload, 1) := by decide +kernel
theorem d_Model_suspicious_97 : decode b_Model_suspicious 97 = .ok (.if_icmp .ge 21, 3) := by decide +kernel
theorem d_Model_suspicious_100 : decode b_Model_suspicious 100 = .ok (.aload_n 0, 1) := by decide +kernel
theorem d_Model_suspicious_101 : decode b_Model_suspicious 101 = .ok (.getfield 22, 3) := by decide +kernel
theorem d_Model_suspicious_104 : decode b_Model_suspicious 104 = .ok (.iload 6, 2) := by decide +kernel
theorem d_Model_suspicious_106 : decode b_Model_suspicious 106 = .ok (.iaload, 1) := by decide +kernel
theorem d_Model_suspicious_107 : decode b_Model_suspicious 107 = .ok (.aload_n 0, 1) := by decide +kernel
theorem d_Model_suspicious_108 : decode b_Model_suspicious 108 = .ok (.getfield 22, 3) := by decide +kernel
theorem d_Model_suspicious_111 : decode b_Model_suspicious 111 = .ok (.iload 4, 2) := by decide +kernel
theorem d_Model_suspicious_113 : decode b_Model_suspicious 113 = .ok (.iaload, 1) := by decide +kernel
theorem d_Model_suspicious_114 : decode b_Model_suspicious 114 = .ok (.isub, 1) := by decide +kernel
theorem d_Model_suspicious_115 : decode b_Model_suspicious 115 = .ok (.goto 18, 3) := by decide +kernel
theorem d_Model_suspicious_118 : decode b_Model_suspicious 118 = .ok (.aload_n 0, 1) := by decide +kernel
theorem d_Model_suspicious_119 : decode b_Model_suspicious 119 = .ok (.getfield 22, 3) := by decide +kernel
theorem d_Model_suspicious_122 : decode b_Model_suspicious 122 = .ok (.iload 4, 2) := by decide +kernel
theorem d_Model_suspicious_124 : decode b_Model_suspicious 124 = .ok (.iaload, 1) := by decide +kernel
theorem d_Model_suspicious_125 : decode b_Model_suspicious 125 = .ok (.aload_n 0, 1) := by decide +kernel
theorem d_Model_suspicious_126 : decode b_Model_suspicious 126 = .ok (.getfield 22, 3) := by decide +kernel
theorem d_Model_suspicious_129 : decode b_Model_suspicious 129 = .ok (.iload 6, 2) := by decide +kernel
theorem d_Model_suspicious_131 : decode b_Model_suspicious 131 = .ok (.iaload, 1) := by decide +kernel
theorem d_Model_suspicious_132 : decode b_Model_suspicious 132 = .ok (.isub, 1) := by decide +kernel
theorem d_Model_suspicious_133 : decode b_Model_suspicious 133 = .ok (.istore 7, 2) := by decide +kernel
theorem d_Model_suspicious_135 : decode b_Model_suspicious 135 = .ok (.iload 7, 2) := by decide +kernel
theorem d_Model_suspicious_137 : decode b_Model_suspicious 137 = .ok (.bipush 60, 2) := by decide +kernel
theorem d_Model_suspicious_139 : decode b_Model_suspicious 139 = .ok (.if_icmp .le 6, 3) := by decide +kernel
theorem d_Model_suspicious_142 : decode b_Model_suspicious 142 = .ok (.goto 23, 3) := by decide +kernel
theorem d_Model_suspicious_145 : decode b_Model_suspicious 145 = .ok (.iload_n 3, 1) := by decide +kernel
theorem d_Model_suspicious_146 : decode b_Model_suspicious 146 = .ok (.iload_n 1, 1) := by decide +kernel
theorem d_Model_suspicious_147 : decode b_Model_suspicious 147 = .ok (.if_icmp .ne 15, 3) := by decide +kernel
theorem d_Model_suspicious_150 : decode b_Model_suspicious 150 = .ok (.aload_n 0, 1) := by decide +kernel
theorem d_Model_suspicious_151 : decode b_Model_suspicious 151 = .ok (.iload 4, 2) := by decide +kernel
theorem d_Model_suspicious_153 : decode b_Model_suspicious 153 = .ok (.iload 5, 2) := by decide +kernel
theorem d_Model_suspicious_155 : decode b_Model_suspicious 155 = .ok (.iload 7, 2) := by decide +kernel
theorem d_Model_suspicious_157 : decode b_Model_suspicious 157 = .ok (.iload_n 2, 1) := by decide +kernel
theorem d_Model_suspicious_158 : decode b_Model_suspicious 158 = .ok (.invokevirtual 147, 3) := by decide +kernel
theorem d_Model_suspicious_161 : decode b_Model_suspicious 161 = .ok (.ireturn, 1) := by decide +kernel
theorem d_Model_suspicious_162 : decode b_Model_suspicious 162 = .ok (.iinc 3 1, 3) := by decide +kernel
theorem d_Model_suspicious_165 : decode b_Model_suspicious 165 = .ok (.iinc 5 1, 3) := by decide +kernel
theorem d_Model_suspicious_168 : decode b_Model_suspicious 168 = .ok (.goto (-138), 3) := by decide +kernel
theorem d_Model_suspicious_171 : decode b_Model_suspicious 171 = .ok (.iinc 4 1, 3) := by decide +kernel
theorem d_Model_suspicious_174 : decode b_Model_suspicious 174 = .ok (.goto (-164), 3) := by decide +kernel
theorem d_Model_suspicious_177 : decode b_Model_suspicious 177 = .ok (.iconst (-1), 1) := by decide +kernel
theorem d_Model_suspicious_178 : decode b_Model_suspicious 178 = .ok (.ireturn, 1) := by decide +kernel
theorem d_Model_tellPair_0 : decode b_Model_tellPair 0 = .ok (.iload 4, 2) := by decide +kernel
theorem d_Model_tellPair_2 : decode b_Model_tellPair 2 = .ok (.tableswitch 48 0 3 #[30, 37, 39, 46], 30) := by decide +kernel
theorem d_Model_tellPair_32 : decode b_Model_tellPair 32 = .ok (.aload_n 0, 1) := by decide +kernel
theorem d_Model_tellPair_33 : decode b_Model_tellPair 33 = .ok (.getfield 16, 3) := by decide +kernel
theorem d_Model_tellPair_36 : decode b_Model_tellPair 36 = .ok (.iload_n 1, 1) := by decide +kernel
theorem d_Model_tellPair_37 : decode b_Model_tellPair 37 = .ok (.iaload, 1) := by decide +kernel
theorem d_Model_tellPair_38 : decode b_Model_tellPair 38 = .ok (.ireturn, 1) := by decide +kernel
theorem d_Model_tellPair_39 : decode b_Model_tellPair 39 = .ok (.iload_n 2, 1) := by decide +kernel
theorem d_Model_tellPair_40 : decode b_Model_tellPair 40 = .ok (.ireturn, 1) := by decide +kernel
theorem d_Model_tellPair_41 : decode b_Model_tellPair 41 = .ok (.aload_n 0, 1) := by decide +kernel
theorem d_Model_tellPair_42 : decode b_Model_tellPair 42 = .ok (.getfield 19, 3) := by decide +kernel
theorem d_Model_tellPair_45 : decode b_Model_tellPair 45 = .ok (.iload_n 1, 1) := by decide +kernel
theorem d_Model_tellPair_46 : decode b_Model_tellPair 46 = .ok (.iaload, 1) := by decide +kernel
theorem d_Model_tellPair_47 : decode b_Model_tellPair 47 = .ok (.ireturn, 1) := by decide +kernel
theorem d_Model_tellPair_48 : decode b_Model_tellPair 48 = .ok (.iload_n 3, 1) := by decide +kernel
theorem d_Model_tellPair_49 : decode b_Model_tellPair 49 = .ok (.ireturn, 1) := by decide +kernel
theorem d_Model_tellPair_50 : decode b_Model_tellPair 50 = .ok (.iconst (-1), 1) := by decide +kernel
theorem d_Model_tellPair_51 : decode b_Model_tellPair 51 = .ok (.ireturn, 1) := by decide +kernel
theorem d_Model_next_0 : decode b_Model_next 0 = .ok (.iconst (-1), 1) := by decide +kernel
theorem d_Model_next_1 : decode b_Model_next 1 = .ok (.istore_n 1, 1) := by decide +kernel
theorem d_Model_next_2 : decode b_Model_next 2 = .ok (.iconst 0, 1) := by decide +kernel
theorem d_Model_next_3 : decode b_Model_next 3 = .ok (.istore_n 2, 1) := by decide +kernel
theorem d_Model_next_4 : decode b_Model_next 4 = .ok (.iload_n 2, 1) := by decide +kernel
theorem d_Model_next_5 : decode b_Model_next 5 = .ok (.aload_n 0, 1) := by decide +kernel
theorem d_Model_next_6 : decode b_Model_next 6 = .ok (.getfield 64, 3) := by decide +kernel
theorem d_Model_next_9 : decode b_Model_next 9 = .ok (.if_icmp .ge 39, 3) := by decide +kernel
theorem d_Model_next_12 : decode b_Model_next 12 = .ok (.aload_n 0, 1) := by decide +kernel
theorem d_Model_next_13 : decode b_Model_next 13 = .ok (.getfield 47, 3) := by decide +kernel
theorem d_Model_next_16 : decode b_Model_next 16 = .ok (.iload_n 2, 1) := by decide +kernel
theorem d_Model_next_17 : decode b_Model_next 17 = .ok (.baload, 1) := by decide +kernel
theorem d_Model_next_18 : decode b_Model_next 18 = .ok (.ifCond .ne 24, 3) := by decide +kernel
theorem d_Model_next_21 : decode b_Model_next 21 = .ok (.iload_n 1, 1) := by decide +kernel
theorem d_Model_next_22 : decode b_Model_next 22 = .ok (.ifCond .lt 18, 3) := by decide +kernel
theorem d_Model_next_25 : decode b_Model_next 25 = .ok (.aload_n 0, 1) := by decide +kernel
theorem d_Model_next_26 : decode b_Model_next 26 = .ok (.getfield 7, 3) := by decide +kernel
theorem d_Model_next_29 : decode b_Model_next 29 = .ok (.iload_n 2, 1) := by decide +kernel
theorem d_Model_next_30 : decode b_Model_next 30 = .ok (.iaload, 1) := by decide +kernel
theorem d_Model_next_31 : decode b_Model_next 31 = .ok (.aload_n 0, 1) := by decide +kernel
theorem d_Model_next_32 : decode b_Model_next 32 = .ok (.getfield 7, 3) := by decide +kernel
theorem d_Model_next_35 : decode b_Model_next 35 = .ok (.iload_n 1, 1) := by decide +kernel
theorem d_Model_next_36 : decode b_Model_next 36 = .ok (.iaload, 1) := by decide +kernel
theorem d_Model_next_37 : decode b_Model_next 37 = .ok (.if_icmp .le 5, 3) := by decide +kernel
theorem d_Model_next_40 : decode b_Model_next 40 = .ok (.iload_n 2, 1) := by decide +kernel
theorem d_Model_next_41 : decode b_Model_next 41 = .ok (.istore_n 1, 1) := by decide +kernel
theorem d_Model_next_42 : decode b_Model_next 42 = .ok (.iinc 2 1, 3) := by decide +kernel
theorem d_Model_next_45 : decode b_Model_next 45 = .ok (.goto (-41), 3) := by decide +kernel
theorem d_Model_next_48 : decode b_Model_next 48 = .ok (.iload_n 1, 1) := by decide +kernel
theorem d_Model_next_49 : decode b_Model_next 49 = .ok (.ireturn, 1) := by decide +kernel
theorem d_Model_even_0 : decode b_Model_even 0 = .ok (.aload_n 0, 1) := by decide +kernel
theorem d_Model_even_1 : decode b_Model_even 1 = .ok (.iconst 0, 1) := by decide +kernel
theorem d_Model_even_2 : decode b_Model_even 2 = .ok (.putfield 60, 3) := by decide +kernel
theorem d_Model_even_5 : decode b_Model_even 5 = .ok (.iload_n 1, 1) := by decide +kernel
theorem d_Model_even_6 : decode b_Model_even 6 = .ok (.iconst 1, 1) := by decide +kernel
theorem d_Model_even_7 : decode b_Model_even 7 = .ok (.if_icmp .lt 17, 3) := by decide +kernel
theorem d_Model_even_10 : decode b_Model_even 10 = .ok (.iload_n 1, 1) := by decide +kernel
theorem d_Model_even_11 : decode b_Model_even 11 = .ok (.bipush 6, 2) := by decide +kernel
theorem d_Model_even_13 : decode b_Model_even 13 = .ok (.if_icmp .gt 11, 3) := by decide +kernel
theorem d_Model_even_16 : decode b_Model_even 16 = .ok (.aload_n 0, 1) := by decide +kernel
theorem d_Model_even_17 : decode b_Model_even 17 = .ok (.iload_n 2, 1) := by decide +kernel
theorem d_Model_even_18 : decode b_Model_even 18 = .ok (.invokevirtual 97, 3) := by decide +kernel
theorem d_Model_even_21 : decode b_Model_even 21 = .ok (.ifCond .ne 5, 3) := by decide +kernel
theorem d_Model_even_24 : decode b_Model_even 24 = .ok (.iconst (-1), 1) := by decide +kernel
theorem d_Model_even_25 : decode b_Model_even 25 = .ok (.ireturn, 1) := by decide +kernel
theorem d_Model_even_26 : decode b_Model_even 26 = .ok (.iconst 0, 1) := by decide +kernel
theorem d_Model_even_27 : decode b_Model_even 27 = .ok (.istore_n 3, 1) := by decide +kernel
theorem d_Model_even_28 : decode b_Model_even 28 = .ok (.iload_n 3, 1) := by decide +kernel
theorem d_Model_even_29 : decode b_Model_even 29 = .ok (.bipush 6, 2) := by decide +kernel
theorem d_Model_even_31 : decode b_Model_even 31 = .ok (.if_icmp .ge 23, 3) := by decide +kernel
theorem d_Model_even_34 : decode b_Model_even 34 = .ok (.aload_n 0, 1) := by decide +kernel
theorem d_Model_even_35 : decode b_Model_even 35 = .ok (.getfield 41, 3) := by decide +kernel
theorem d_Model_even_38 : decode b_Model_even 38 = .ok (.iload_n 3, 1) := by decide +kernel
theorem d_Model_even_39 : decode b_Model_even 39 = .ok (.iconst 0, 1) := by decide +kernel
theorem d_Model_even_40 : decode b_Model_even 40 = .ok (.iastore, 1) := by decide +kernel
theorem d_Model_even_41 : decode b_Model_even 41 = .ok (.aload_n 0, 1) := by decide +kernel
theorem d_Model_even_42 : decode b_Model_even 42 = .ok (.getfield 44, 3) := by decide +kernel
theorem d_Model_even_45 : decode b_Model_even 45 = .ok (.iload_n 3, 1) := by decide +kernel
theorem d_Model_even_46 : decode b_Model_even 46 = .ok (.iconst 0, 1) := by decide +kernel
theorem d_Model_even_47 : decode b_Model_even 47 = .ok (.iastore, 1) := by decide +kernel
theorem d_Model_even_48 : decode b_Model_even 48 = .ok (.iinc 3 1, 3) := by decide +kernel
theorem d_Model_even_51 : decode b_Model_even 51 = .ok (.goto (-23), 3) := by decide +kernel
theorem d_Model_even_54 : decode b_Model_even 54 = .ok (.iconst 0, 1) := by decide +kernel
theorem d_Model_even_55 : decode b_Model_even 55 = .ok (.istore_n 3, 1) := by decide +kernel
theorem d_Model_even_56 : decode b_Model_even 56 = .ok (.iload_n 3, 1) := by decide +kernel
theorem d_Model_even_57 : decode b_Model_even 57 = .ok (.bipush 20, 2) := by decide +kernel
theorem d_Model_even_59 : decode b_Model_even 59 = .ok (.if_icmp .ge 16, 3) := by decide +kernel
theorem d_Model_even_62 : decode b_Model_even 62 = .ok (.aload_n 0, 1) := by decide +kernel
theorem d_Model_even_63 : decode b_Model_even 63 = .ok (.getfield 47, 3) := by decide +kernel
theorem d_Model_even_66 : decode b_Model_even 66 = .ok (.iload_n 3, 1) := by decide +kernel
theorem d_Model_even_67 : decode b_Model_even 67 = .ok (.iconst 0, 1) := by decide +kernel
theorem d_Model_even_68 : decode b_Model_even 68 = .ok (.bastore, 1) := by decide +kernel
theorem d_Model_even_69 : decode b_Model_even 69 = .ok (.iinc 3 1, 3) := by decide +kernel
theorem d_Model_even_72 : decode b_Model_even 72 = .ok (.goto (-16), 3) := by decide +kernel
theorem d_Model_even_75 : decode b_Model_even 75 = .ok (.iconst 0, 1) := by decide +kernel
theorem d_Model_even_76 : decode b_Model_even 76 = .ok (.istore_n 3, 1) := by decide +kernel
theorem d_Model_even_77 : decode b_Model_even 77 = .ok (.aload_n 0, 1) := by decide +kernel
theorem d_Model_even_78 : decode b_Model_even 78 = .ok (.invokevirtual 151, 3) := by decide +kernel
theorem d_Model_even_81 : decode b_Model_even 81 = .ok (.istore 4, 2) := by decide +kernel
theorem d_Model_even_83 : decode b_Model_even 83 = .ok (.aload_n 0, 1) := by decide +kernel
theorem d_Model_even_84 : decode b_Model_even 84 = .ok (.getfield 47, 3) := by decide +kernel
theorem d_Model_even_87 : decode b_Model_even 87 = .ok (.iload_n 2, 1) := by decide +kernel
theorem d_Model_even_88 : decode b_Model_even 88 = .ok (.baload, 1) := by decide +kernel
theorem d_Model_even_89 : decode b_Model_even 89 = .ok (.ifCond .ne 114, 3) := by decide +kernel
theorem d_Model_even_92 : decode b_Model_even 92 = .ok (.iconst 0, 1) := by decide +kernel
theorem d_Model_even_93 : decode b_Model_even 93 = .ok (.istore_n 3, 1) := by decide +kernel
theorem d_Model_even_94 : decode b_Model_even 94 = .ok (.iconst 1, 1) := by decide +kernel
theorem d_Model_even_95 : decode b_Model_even 95 = .ok (.istore 5, 2) := by decide +kernel
theorem d_Model_even_97 : decode b_Model_even 97 = .ok (.iload 5, 2) := by decide +kernel
theorem d_Model_even_99 : decode b_Model_even 99 = .ok (.iload_n 1, 1) := by decide +kernel
theorem d_Model_even_100 : decode b_Model_even 100 = .ok (.if_icmp .ge 60, 3) := by decide +kernel
theorem d_Model_even_103 : decode b_Model_even 103 = .ok (.aload_n 0, 1) := by decide +kernel
theorem d_Model_even_104 : decode b_Model_even 104 = .ok (.getfield 41, 3) := by decide +kernel
theorem d_Model_even_107 : decode b_Model_even 107 = .ok (.iload 5, 2) := by decide +kernel
theorem d_Model_even_109 : decode b_Model_even 109 = .ok (.iaload, 1) := by decide +kernel
theorem d_Model_even_110 : decode b_Model_even 110 = .ok (.aload_n 0, 1) := by decide +kernel
theorem d_Model_even_111 : decode b_Model_even 111 = .ok (.getfield 41, 3) := by decide +kernel
theorem d_Model_even_114 : decode b_Model_even 114 = .ok (.iload_n 3, 1) := by decide +kernel
theorem d_Model_even_115 : decode b_Model_even 115 = .ok (.iaload, 1) := by decide +kernel
theorem d_Model_even_116 : decode b_Model_even 116 = .ok (.if_icmp .lt 35, 3) := by decide +kernel
theorem d_Model_even_119 : decode b_Model_even 119 = .ok (.aload_n 0, 1) := by decide +kernel
theorem d_Model_even_120 : decode b_Model_even 120 = .ok (.getfield 41, 3) := by decide +kernel
theorem d_Model_even_123 : decode b_Model_even 123 = .ok (.iload 5, 2) := by decide +kernel
theorem d_Model_even_125 : decode b_Model_even 125 = .ok (.iaload, 1) := by decide +kernel
theorem d_Model_even_126 : decode b_Model_even 126 = .ok (.aload_n 0, 1) := by decide +kernel
theorem d_Model_even_127 : decode b_Model_even 127 = .ok (.getfield 41, 3) := by decide +kernel
theorem d_Model_even_130 : decode b_Model_even 130 = .ok (.iload_n 3, 1) := by decide +kernel
theorem d_Model_even_131 : decode b_Model_even 131 = .ok (.iaload, 1) := by decide +kernel
theorem d_Model_even_132 : decode b_Model_even 132 = .ok (.if_icmp .ne 22, 3) := by decide +kernel
theorem d_Model_even_135 : decode b_Model_even 135 = .ok (.aload_n 0, 1) := by decide +kernel
theorem d_Model_even_136 : decode b_Model_even 136 = .ok (.getfield 44, 3) := by decide +kernel
theorem d_Model_even_139 : decode b_Model_even 139 = .ok (.iload 5, 2) := by decide +kernel
theorem d_Model_even_141 : decode b_Model_even 141 = .ok (.iaload, 1) := by decide +kernel
theorem d_Model_even_142 : decode b_Model_even 142 = .ok (.aload_n 0, 1) := by decide +kernel
theorem d_Model_even_143 : decode b_Model_even 143 = .ok (.getfield 44, 3) := by decide +kernel
theorem d_Model_even_146 : decode b_Model_even 146 = .ok (.iload_n 3, 1) := by decide +kernel
theorem d_Model_even_147 : decode b_Model_even 147 = .ok (.iaload, 1) := by decide +kernel
theorem d_Model_even_148 : decode b_Model_even 148 = .ok (.if_icmp .ge 6, 3) := by decide +kernel
theorem d_Model_even_151 : decode b_Model_even 151 = .ok (.iload 5, 2) := by decide +kernel
theorem d_Model_even_153 : decode b_Model_even 153 = .ok (.istore_n 3, 1) := by decide +kernel
theorem d_Model_even_154 : decode b_Model_even 154 = .ok (.iinc 5 1, 3) := by decide +kernel
theorem d_Model_even_157 : decode b_Model_even 157 = .ok (.goto (-60), 3) := by decide +kernel
theorem d_Model_even_160 : decode b_Model_even 160 = .ok (.aload_n 0, 1) := by decide +kernel
theorem d_Model_even_161 : decode b_Model_even 161 = .ok (.getfield 41, 3) := by decide +kernel
theorem d_Model_even_164 : decode b_Model_even 164 = .ok (.iload_n 3, 1) := by decide +kernel
theorem d_Model_even_165 : decode b_Model_even 165 = .ok (.dup2, 1) := by decide +kernel
theorem d_Model_even_166 : decode b_Model_even 166 = .ok (.iaload, 1) := by decide +kernel
theorem d_Model_even_167 : decode b_Model_even 167 = .ok (.aload_n 0, 1) := by decide +kernel
theorem d_Model_even_168 : decode b_Model_even 168 = .ok (.getfield 7, 3) := by decide +kernel
theorem d_Model_even_171 : decode b_Model_even 171 = .ok (.iload 4, 2) := by decide +kernel
theorem d_Model_even_173 : decode b_Model_even 173 = .ok (.iaload, 1) := by decide +kernel
theorem d_Model_even_174 : decode b_Model_even 174 = .ok (.iadd, 1) := by decide +kernel
theorem d_Model_even_175 : decode b_Model_even 175 = .ok (.iastore, 1) := by decide +kernel
theorem d_Model_even_176 : decode b_Model_even 176 = .ok (.aload_n 0, 1) := by decide +kernel
theorem d_Model_even_177 : decode b_Model_even 177 = .ok (.getfield 44, 3) := by decide +kernel
theorem d_Model_even_180 : decode b_Model_even 180 = .ok (.iload_n 3, 1) := by decide +kernel
theorem d_Model_even_181 : decode b_Model_even 181 = .ok (.dup2, 1) := by decide +kernel
theorem d_Model_even_182 : decode b_Model_even 182 = .ok (.iaload, 1) := by decide +kernel
theorem d_Model_even_183 : decode b_Model_even 183 = .ok (.iconst 1, 1) := by decide +kernel
theorem d_Model_even_184 : decode b_Model_even 184 = .ok (.iadd, 1) := by decide +kernel
theorem d_Model_even_185 : decode b_Model_even 185 = .ok (.iastore, 1) := by decide +kernel
theorem d_Model_even_186 : decode b_Model_even 186 = .ok (.aload_n 0, 1) := by decide +kernel
theorem d_Model_even_187 : decode b_Model_even 187 = .ok (.getfield 47, 3) := by decide +kernel
theorem d_Model_even_190 : decode b_Model_even 190 = .ok (.iload 4, 2) := by decide +kernel
theorem d_Model_even_192 : decode b_Model_even 192 = .ok (.iconst 1, 1) := by decide +kernel
theorem d_Model_even_193 : decode b_Model_even 193 = .ok (.bastore, 1) := by decide +kernel
theorem d_Model_even_194 : decode b_Model_even 194 = .ok (.aload_n 0, 1) := by decide +kernel
theorem d_Model_even_195 : decode b_Model_even 195 = .ok (.invokevirtual 151, 3) := by decide +kernel
theorem d_Model_even_198 : decode b_Model_even 198 = .ok (.istore 4, 2) := by decide +kernel
theorem d_Model_even_200 : decode b_Model_even 200 = .ok (.goto (-117), 3) := by decide +kernel
theorem d_Model_even_203 : decode b_Model_even 203 = .ok (.iload_n 3, 1) := by decide +kernel
theorem d_Model_even_204 : decode b_Model_even 204 = .ok (.ireturn, 1) := by decide +kernel
theorem d_Model_apart_0 : decode b_Model_apart 0 = .ok (.aload_n 0, 1) := by decide +kernel
theorem d_Model_apart_1 : decode b_Model_apart 1 = .ok (.iconst 0, 1) := by decide +kernel
theorem d_Model_apart_2 : decode b_Model_apart 2 = .ok (.putfield 60, 3) := by decide +kernel
theorem d_Model_apart_5 : decode b_Model_apart 5 = .ok (.aload_n 0, 1) := by decide +kernel
theorem d_Model_apart_6 : decode b_Model_apart 6 = .ok (.getfield 64, 3) := by decide +kernel
theorem d_Model_apart_9 : decode b_Model_apart 9 = .ok (.ifCond .ne 5, 3) := by decide +kernel
theorem d_Model_apart_12 : decode b_Model_apart 12 = .ok (.iconst (-1), 1) := by decide +kernel
theorem d_Model_apart_13 : decode b_Model_apart 13 = .ok (.ireturn, 1) := by decide +kernel
theorem d_Model_apart_14 : decode b_Model_apart 14 = .ok (.iconst 0, 1) := by decide +kernel
theorem d_Model_apart_15 : decode b_Model_apart 15 = .ok (.istore_n 1, 1) := by decide +kernel
theorem d_Model_apart_16 : decode b_Model_apart 16 = .ok (.iconst 0, 1) := by decide +kernel
theorem d_Model_apart_17 : decode b_Model_apart 17 = .ok (.istore_n 2, 1) := by decide +kernel
theorem d_Model_apart_18 : decode b_Model_apart 18 = .ok (.iload_n 2, 1) := by decide +kernel
theorem d_Model_apart_19 : decode b_Model_apart 19 = .ok (.sipush 2001, 3) := by decide +kernel
theorem d_Model_apart_22 : decode b_Model_apart 22 = .ok (.if_icmp .ge 24, 3) := by decide +kernel
theorem d_Model_apart_25 : decode b_Model_apart 25 = .ok (.aload_n 0, 1) := by decide +kernel
theorem d_Model_apart_26 : decode b_Model_apart 26 = .ok (.getfield 50, 3) := by decide +kernel
theorem d_Model_apart_29 : decode b_Model_apart 29 = .ok (.iload_n 2, 1) := by decide +kernel
theorem d_Model_apart_30 : decode b_Model_apart 30 = .ok (.iload_n 2, 1) := by decide +kernel
theorem d_Model_apart_31 : decode b_Model_apart 31 = .ok (.ifCond .ne 7, 3) := by decide +kernel
theorem d_Model_apart_34 : decode b_Model_apart 34 = .ok (.iconst 1, 1) := by decide +kernel
theorem d_Model_apart_35 : decode b_Model_apart 35 = .ok (.goto 4, 3) := by decide +kernel
theorem d_Model_apart_38 : decode b_Model_apart 38 = .ok (.iconst 0, 1) := by decide +kernel
theorem d_Model_apart_39 : decode b_Model_apart 39 = .ok (.bastore, 1) := by decide +kernel
theorem d_Model_apart_40 : decode b_Model_apart 40 = .ok (.iinc 2 1, 3) := by decide +kernel
theorem d_Model_apart_43 : decode b_Model_apart 43 = .ok (.goto (-25), 3) := by decide +kernel
theorem d_Model_apart_46 : decode b_Model_apart 46 = .ok (.iconst 0, 1) := by decide +kernel
theorem d_Model_apart_47 : decode b_Model_apart 47 = .ok (.istore_n 2, 1) := by decide +kernel
theorem d_Model_apart_48 : decode b_Model_apart 48 = .ok (.iload_n 2, 1) := by decide +kernel
theorem d_Model_apart_49 : decode b_Model_apart 49 = .ok (.aload_n 0, 1) := by decide +kernel
theorem d_Model_apart_50 : decode b_Model_apart 50 = .ok (.getfield 64, 3) := by decide +kernel
theorem d_Model_apart_53 : decode b_Model_apart 53 = .ok (.if_icmp .ge 74, 3) := by decide +kernel
theorem d_Model_apart_56 : decode b_Model_apart 56 = .ok (.iload_n 1, 1) := by decide +kernel
theorem d_Model_apart_57 : decode b_Model_apart 57 = .ok (.aload_n 0, 1) := by decide +kernel
theorem d_Model_apart_58 : decode b_Model_apart 58 = .ok (.getfield 7, 3) := by decide +kernel
theorem d_Model_apart_61 : decode b_Model_apart 61 = .ok (.iload_n 2, 1) := by decide +kernel
theorem d_Model_apart_62 : decode b_Model_apart 62 = .ok (.iaload, 1) := by decide +kernel
theorem d_Model_apart_63 : decode b_Model_apart 63 = .ok (.iadd, 1) := by decide +kernel
theorem d_Model_apart_64 : decode b_Model_apart 64 = .ok (.istore_n 1, 1) := by decide +kernel
theorem d_Model_apart_65 : decode b_Model_apart 65 = .ok (.sipush 2000, 3) := by decide +kernel
theorem d_Model_apart_68 : decode b_Model_apart 68 = .ok (.istore_n 3, 1) := by decide +kernel
theorem d_Model_apart_69 : decode b_Model_apart 69 = .ok (.iload_n 3, 1) := by decide +kernel
theorem d_Model_apart_70 : decode b_Model_apart 70 = .ok (.aload_n 0, 1) := by decide +kernel
theorem d_Model_apart_71 : decode b_Model_apart 71 = .ok (.getfield 7, 3) := by decide +kernel
theorem d_Model_apart_74 : decode b_Model_apart 74 = .ok (.iload_n 2, 1) := by decide +kernel
theorem d_Model_apart_75 : decode b_Model_apart 75 = .ok (.iaload, 1) := by decide +kernel
theorem d_Model_apart_76 : decode b_Model_apart 76 = .ok (.if_icmp .lt 45, 3) := by decide +kernel
theorem d_Model_apart_79 : decode b_Model_apart 79 = .ok (.aload_n 0, 1) := by decide +kernel
theorem d_Model_apart_80 : decode b_Model_apart 80 = .ok (.getfield 50, 3) := by decide +kernel
theorem d_Model_apart_83 : decode b_Model_apart 83 = .ok (.iload_n 3, 1) := by decide +kernel
theorem d_Model_apart_84 : decode b_Model_apart 84 = .ok (.aload_n 0, 1) := by decide +kernel
theorem d_Model_apart_85 : decode b_Model_apart 85 = .ok (.getfield 50, 3) := by decide +kernel
theorem d_Model_apart_88 : decode b_Model_apart 88 = .ok (.iload_n 3, 1) := by decide +kernel
theorem d_Model_apart_89 : decode b_Model_apart 89 = .ok (.baload, 1) := by decide +kernel
theorem d_Model_apart_90 : decode b_Model_apart 90 = .ok (.ifCond .ne 19, 3) := by decide +kernel
theorem d_Model_apart_93 : decode b_Model_apart 93 = .ok (.aload_n 0, 1) := by decide +kernel
theorem d_Model_apart_94 : decode b_Model_apart 94 = .ok (.getfield 50, 3) := by decide +kernel
theorem d_Model_apart_97 : decode b_Model_apart 97 = .ok (.iload_n 3, 1) := by decide +kernel
theorem d_Model_apart_98 : decode b_Model_apart 98 = .ok (.aload_n 0, 1) := by decide +kernel
theorem d_Model_apart_99 : decode b_Model_apart 99 = .ok (.getfield 7, 3) := by decide +kernel
theorem d_Model_apart_102 : decode b_Model_apart 102 = .ok (.iload_n 2, 1) := by decide +kernel
theorem d_Model_apart_103 : decode b_Model_apart 103 = .ok (.iaload, 1) := by decide +kernel
theorem d_Model_apart_104 : decode b_Model_apart 104 = .ok (.isub, 1) := by decide +kernel
theorem d_Model_apart_105 : decode b_Model_apart 105 = .ok (.baload, 1) := by decide +kernel
theorem d_Model_apart_106 : decode b_Model_apart 106 = .ok (.ifCond .eq 7, 3) := by decide +kernel
theorem d_Model_apart_109 : decode b_Model_apart 109 = .ok (.iconst 1, 1) := by decide +kernel
theorem d_Model_apart_110 : decode b_Model_apart 110 = .ok (.goto 4, 3) := by decide +kernel
theorem d_Model_apart_113 : decode b_Model_apart 113 = .ok (.iconst 0, 1) := by decide +kernel
theorem d_Model_apart_114 : decode b_Model_apart 114 = .ok (.bastore, 1) := by decide +kernel
theorem d_Model_apart_115 : decode b_Model_apart 115 = .ok (.iinc 3 (-1), 3) := by decide +kernel
theorem d_Model_apart_118 : decode b_Model_apart 118 = .ok (.goto (-49), 3) := by decide +kernel
theorem d_Model_apart_121 : decode b_Model_apart 121 = .ok (.iinc 2 1, 3) := by decide +kernel
theorem d_Model_apart_124 : decode b_Model_apart 124 = .ok (.goto (-76), 3) := by decide +kernel
theorem d_Model_apart_127 : decode b_Model_apart 127 = .ok (.iload_n 1, 1) := by decide +kernel
theorem d_Model_apart_128 : decode b_Model_apart 128 = .ok (.iconst 2, 1) := by decide +kernel
theorem d_Model_apart_129 : decode b_Model_apart 129 = .ok (.idiv, 1) := by decide +kernel
theorem d_Model_apart_130 : decode b_Model_apart 130 = .ok (.istore_n 2, 1) := by decide +kernel
theorem d_Model_apart_131 : decode b_Model_apart 131 = .ok (.aload_n 0, 1) := by decide +kernel
theorem d_Model_apart_132 : decode b_Model_apart 132 = .ok (.getfield 50, 3) := by decide +kernel
theorem d_Model_apart_135 : decode b_Model_apart 135 = .ok (.iload_n 2, 1) := by decide +kernel
theorem d_Model_apart_136 : decode b_Model_apart 136 = .ok (.baload, 1) := by decide +kernel
theorem d_Model_apart_137 : decode b_Model_apart 137 = .ok (.ifCond .ne 9, 3) := by decide +kernel
theorem d_Model_apart_140 : decode b_Model_apart 140 = .ok (.iinc 2 (-1), 3) := by decide +kernel
theorem d_Model_apart_143 : decode b_Model_apart 143 = .ok (.goto (-12), 3) := by decide +kernel
theorem d_Model_apart_146 : decode b_Model_apart 146 = .ok (.iload_n 1, 1) := by decide +kernel
theorem d_Model_apart_147 : decode b_Model_apart 147 = .ok (.iconst 2, 1) := by decide +kernel
theorem d_Model_apart_148 : decode b_Model_apart 148 = .ok (.iload_n 2, 1) := by decide +kernel
theorem d_Model_apart_149 : decode b_Model_apart 149 = .ok (.imul, 1) := by decide +kernel
theorem d_Model_apart_150 : decode b_Model_apart 150 = .ok (.isub, 1) := by decide +kernel
theorem d_Model_apart_151 : decode b_Model_apart 151 = .ok (.ireturn, 1) := by decide +kernel
